section
/-- a private method of a class that the tables say can be made, by its rows of tables_1 -/
def lw_okq (q : MethodName × Nat) : Prop := (q.1.cls ≠ "java/lang/invoke/MethodHandle" ∧ q.1.cls ≠ "java/lang/invoke/VarHandle") ∧ Cond.instantiable q.1.cls q.2 ∈ tables_1 ∧ Cond.privateMethod q.1 ∈ tables_1 ∧ Cond.instanceMethod q.1 ∈ tables_1
theorem lw_p0 : lw_okq (⟨"java/lang/Throwable", "fillInStackTrace", "(I)Ljava/lang/Throwable;"⟩, 6) := ⟨⟨by decide +kernel, by decide +kernel⟩, List.mem_of_getElem? (i := 160) (by decide +kernel), List.mem_of_getElem? (i := 158) (by decide +kernel), List.mem_of_getElem? (i := 159) (by decide +kernel)⟩
theorem lw_p1 : lw_okq (⟨"ParrotLog", "speak", "(II)I"⟩, 9) := ⟨⟨by decide +kernel, by decide +kernel⟩, List.mem_of_getElem? (i := 13) (by decide +kernel), List.mem_of_getElem? (i := 191) (by decide +kernel), List.mem_of_getElem? (i := 192) (by decide +kernel)⟩
theorem lw_p2 : lw_okq (⟨"ParrotLog$Log", "markFirst", "()V"⟩, 8) := ⟨⟨by decide +kernel, by decide +kernel⟩, List.mem_of_getElem? (i := 21) (by decide +kernel), List.mem_of_getElem? (i := 195) (by decide +kernel), List.mem_of_getElem? (i := 196) (by decide +kernel)⟩
theorem lw_p3 : lw_okq (⟨"ParrotLog", "dropMarked", "()I"⟩, 9) := ⟨⟨by decide +kernel, by decide +kernel⟩, List.mem_of_getElem? (i := 13) (by decide +kernel), List.mem_of_getElem? (i := 199) (by decide +kernel), List.mem_of_getElem? (i := 200) (by decide +kernel)⟩
theorem lw_p4 : lw_okq (⟨"ParrotLog$Log", "countMarkedFrom", "(I)I"⟩, 8) := ⟨⟨by decide +kernel, by decide +kernel⟩, List.mem_of_getElem? (i := 21) (by decide +kernel), List.mem_of_getElem? (i := 203) (by decide +kernel), List.mem_of_getElem? (i := 204) (by decide +kernel)⟩
theorem lw_p5 : lw_okq (⟨"ParrotLog$Log", "positionFrom", "(I)I"⟩, 8) := ⟨⟨by decide +kernel, by decide +kernel⟩, List.mem_of_getElem? (i := 21) (by decide +kernel), List.mem_of_getElem? (i := 207) (by decide +kernel), List.mem_of_getElem? (i := 208) (by decide +kernel)⟩
theorem lw_p6 : lw_okq (⟨"ParrotLog$Log", "removeMarked", "()I"⟩, 8) := ⟨⟨by decide +kernel, by decide +kernel⟩, List.mem_of_getElem? (i := 21) (by decide +kernel), List.mem_of_getElem? (i := 211) (by decide +kernel), List.mem_of_getElem? (i := 212) (by decide +kernel)⟩
theorem lw_p7 : lw_okq (⟨"ParrotLog$Log", "append", "(III)I"⟩, 8) := ⟨⟨by decide +kernel, by decide +kernel⟩, List.mem_of_getElem? (i := 21) (by decide +kernel), List.mem_of_getElem? (i := 215) (by decide +kernel), List.mem_of_getElem? (i := 216) (by decide +kernel)⟩
theorem lw_p8 : lw_okq (⟨"ParrotLog", "mostHeard", "(II)I"⟩, 9) := ⟨⟨by decide +kernel, by decide +kernel⟩, List.mem_of_getElem? (i := 13) (by decide +kernel), List.mem_of_getElem? (i := 227) (by decide +kernel), List.mem_of_getElem? (i := 228) (by decide +kernel)⟩
theorem lw_p9 : lw_okq (⟨"ParrotLog", "hearNext", "(LParrotLog$Ship;I)I"⟩, 9) := ⟨⟨by decide +kernel, by decide +kernel⟩, List.mem_of_getElem? (i := 13) (by decide +kernel), List.mem_of_getElem? (i := 231) (by decide +kernel), List.mem_of_getElem? (i := 232) (by decide +kernel)⟩
theorem lw_p10 : lw_okq (⟨"ParrotLog$Ship", "hear", "(III)V"⟩, 5) := ⟨⟨by decide +kernel, by decide +kernel⟩, List.mem_of_getElem? (i := 62) (by decide +kernel), List.mem_of_getElem? (i := 239) (by decide +kernel), List.mem_of_getElem? (i := 240) (by decide +kernel)⟩
theorem lw_p11 : lw_okq (⟨"ParrotLog$Log", "positionOf", "(I)I"⟩, 8) := ⟨⟨by decide +kernel, by decide +kernel⟩, List.mem_of_getElem? (i := 21) (by decide +kernel), List.mem_of_getElem? (i := 267) (by decide +kernel), List.mem_of_getElem? (i := 268) (by decide +kernel)⟩
theorem lw_p12 : lw_okq (⟨"ParrotLog", "keptPosition", "(I)I"⟩, 9) := ⟨⟨by decide +kernel, by decide +kernel⟩, List.mem_of_getElem? (i := 13) (by decide +kernel), List.mem_of_getElem? (i := 275) (by decide +kernel), List.mem_of_getElem? (i := 276) (by decide +kernel)⟩
theorem lw_p13 : lw_okq (⟨"ParrotLog$Log", "latestOffset", "(I)I"⟩, 8) := ⟨⟨by decide +kernel, by decide +kernel⟩, List.mem_of_getElem? (i := 21) (by decide +kernel), List.mem_of_getElem? (i := 310) (by decide +kernel), List.mem_of_getElem? (i := 311) (by decide +kernel)⟩
theorem lw_p14 : lw_okq (⟨"ParrotLog$Log", "latestPosition", "(III)I"⟩, 8) := ⟨⟨by decide +kernel, by decide +kernel⟩, List.mem_of_getElem? (i := 21) (by decide +kernel), List.mem_of_getElem? (i := 314) (by decide +kernel), List.mem_of_getElem? (i := 315) (by decide +kernel)⟩
theorem lw_p15 : lw_okq (⟨"ParrotLog$Log", "latestValue", "(I)I"⟩, 8) := ⟨⟨by decide +kernel, by decide +kernel⟩, List.mem_of_getElem? (i := 21) (by decide +kernel), List.mem_of_getElem? (i := 322) (by decide +kernel), List.mem_of_getElem? (i := 323) (by decide +kernel)⟩
def lw_privs_1 : List (MethodName × Nat) := [(⟨"java/lang/Throwable", "fillInStackTrace", "(I)Ljava/lang/Throwable;"⟩, 6), (⟨"ParrotLog", "speak", "(II)I"⟩, 9), (⟨"ParrotLog$Log", "markFirst", "()V"⟩, 8), (⟨"ParrotLog", "dropMarked", "()I"⟩, 9), (⟨"ParrotLog$Log", "countMarkedFrom", "(I)I"⟩, 8), (⟨"ParrotLog$Log", "positionFrom", "(I)I"⟩, 8), (⟨"ParrotLog$Log", "removeMarked", "()I"⟩, 8), (⟨"ParrotLog$Log", "append", "(III)I"⟩, 8), (⟨"ParrotLog", "mostHeard", "(II)I"⟩, 9), (⟨"ParrotLog", "hearNext", "(LParrotLog$Ship;I)I"⟩, 9), (⟨"ParrotLog$Ship", "hear", "(III)V"⟩, 5), (⟨"ParrotLog$Log", "positionOf", "(I)I"⟩, 8), (⟨"ParrotLog", "keptPosition", "(I)I"⟩, 9), (⟨"ParrotLog$Log", "latestOffset", "(I)I"⟩, 8), (⟨"ParrotLog$Log", "latestPosition", "(III)I"⟩, 8), (⟨"ParrotLog$Log", "latestValue", "(I)I"⟩, 8)]
theorem lw_r1 : ∀ q ∈ lw_privs_1, lw_okq q := List.forall_mem_cons.mpr ⟨lw_p0, List.forall_mem_cons.mpr ⟨lw_p1, List.forall_mem_cons.mpr ⟨lw_p2, List.forall_mem_cons.mpr ⟨lw_p3, List.forall_mem_cons.mpr ⟨lw_p4, List.forall_mem_cons.mpr ⟨lw_p5, List.forall_mem_cons.mpr ⟨lw_p6, List.forall_mem_cons.mpr ⟨lw_p7, List.forall_mem_cons.mpr ⟨lw_p8, List.forall_mem_cons.mpr ⟨lw_p9, List.forall_mem_cons.mpr ⟨lw_p10, List.forall_mem_cons.mpr ⟨lw_p11, List.forall_mem_cons.mpr ⟨lw_p12, List.forall_mem_cons.mpr ⟨lw_p13, List.forall_mem_cons.mpr ⟨lw_p14, List.forall_mem_cons.mpr ⟨lw_p15, fun _ h => absurd h List.not_mem_nil⟩⟩⟩⟩⟩⟩⟩⟩⟩⟩⟩⟩⟩⟩⟩⟩
theorem lw_p16 : lw_okq (⟨"ParrotLog$Log", "countKey", "(I)I"⟩, 8) := ⟨⟨by decide +kernel, by decide +kernel⟩, List.mem_of_getElem? (i := 21) (by decide +kernel), List.mem_of_getElem? (i := 330) (by decide +kernel), List.mem_of_getElem? (i := 331) (by decide +kernel)⟩
theorem lw_p17 : lw_okq (⟨"ParrotLog$Log", "countEqual", "([II)I"⟩, 8) := ⟨⟨by decide +kernel, by decide +kernel⟩, List.mem_of_getElem? (i := 21) (by decide +kernel), List.mem_of_getElem? (i := 334) (by decide +kernel), List.mem_of_getElem? (i := 335) (by decide +kernel)⟩
theorem lw_p18 : lw_okq (⟨"ParrotLog", "checkStorm", "(I)V"⟩, 9) := ⟨⟨by decide +kernel, by decide +kernel⟩, List.mem_of_getElem? (i := 13) (by decide +kernel), List.mem_of_getElem? (i := 350) (by decide +kernel), List.mem_of_getElem? (i := 351) (by decide +kernel)⟩
theorem lw_p19 : lw_okq (⟨"ParrotLog$Log", "countStorm", "(I)I"⟩, 8) := ⟨⟨by decide +kernel, by decide +kernel⟩, List.mem_of_getElem? (i := 21) (by decide +kernel), List.mem_of_getElem? (i := 359) (by decide +kernel), List.mem_of_getElem? (i := 360) (by decide +kernel)⟩
theorem lw_p20 : lw_okq (⟨"ParrotLog", "shipNumbered", "(I)LParrotLog$Ship;"⟩, 9) := ⟨⟨by decide +kernel, by decide +kernel⟩, List.mem_of_getElem? (i := 13) (by decide +kernel), List.mem_of_getElem? (i := 371) (by decide +kernel), List.mem_of_getElem? (i := 372) (by decide +kernel)⟩
theorem lw_p21 : lw_okq (⟨"ParrotLog", "lag", "(LParrotLog$Ship;)I"⟩, 9) := ⟨⟨by decide +kernel, by decide +kernel⟩, List.mem_of_getElem? (i := 13) (by decide +kernel), List.mem_of_getElem? (i := 380) (by decide +kernel), List.mem_of_getElem? (i := 381) (by decide +kernel)⟩
theorem lw_p22 : lw_okq (⟨"ParrotLog", "errorsAfter", "(LParrotLog$Ship;I)I"⟩, 9) := ⟨⟨by decide +kernel, by decide +kernel⟩, List.mem_of_getElem? (i := 13) (by decide +kernel), List.mem_of_getElem? (i := 396) (by decide +kernel), List.mem_of_getElem? (i := 397) (by decide +kernel)⟩
theorem lw_p23 : lw_okq (⟨"ParrotLog", "markCompacted", "()V"⟩, 9) := ⟨⟨by decide +kernel, by decide +kernel⟩, List.mem_of_getElem? (i := 13) (by decide +kernel), List.mem_of_getElem? (i := 409) (by decide +kernel), List.mem_of_getElem? (i := 410) (by decide +kernel)⟩
theorem lw_p24 : lw_okq (⟨"ParrotLog", "leastShipOffset", "()I"⟩, 9) := ⟨⟨by decide +kernel, by decide +kernel⟩, List.mem_of_getElem? (i := 13) (by decide +kernel), List.mem_of_getElem? (i := 413) (by decide +kernel), List.mem_of_getElem? (i := 414) (by decide +kernel)⟩
theorem lw_p25 : lw_okq (⟨"ParrotLog$Log", "markCompacted", "(I)V"⟩, 8) := ⟨⟨by decide +kernel, by decide +kernel⟩, List.mem_of_getElem? (i := 21) (by decide +kernel), List.mem_of_getElem? (i := 417) (by decide +kernel), List.mem_of_getElem? (i := 418) (by decide +kernel)⟩
theorem lw_p26 : lw_okq (⟨"ParrotLog$Log", "countMarked", "()I"⟩, 8) := ⟨⟨by decide +kernel, by decide +kernel⟩, List.mem_of_getElem? (i := 21) (by decide +kernel), List.mem_of_getElem? (i := 421) (by decide +kernel), List.mem_of_getElem? (i := 422) (by decide +kernel)⟩
theorem lw_p27 : lw_okq (⟨"ParrotLog", "checkReachable", "(I)V"⟩, 9) := ⟨⟨by decide +kernel, by decide +kernel⟩, List.mem_of_getElem? (i := 13) (by decide +kernel), List.mem_of_getElem? (i := 512) (by decide +kernel), List.mem_of_getElem? (i := 513) (by decide +kernel)⟩
theorem lw_p28 : lw_okq (⟨"ParrotLog$Log", "copyStorm", "(I[I[I)I"⟩, 8) := ⟨⟨by decide +kernel, by decide +kernel⟩, List.mem_of_getElem? (i := 21) (by decide +kernel), List.mem_of_getElem? (i := 552) (by decide +kernel), List.mem_of_getElem? (i := 553) (by decide +kernel)⟩
theorem lw_p29 : lw_okq (⟨"ParrotLog$Log", "markAhead", "(I)V"⟩, 8) := ⟨⟨by decide +kernel, by decide +kernel⟩, List.mem_of_getElem? (i := 21) (by decide +kernel), List.mem_of_getElem? (i := 569) (by decide +kernel), List.mem_of_getElem? (i := 570) (by decide +kernel)⟩
def lw_privs_2 : List (MethodName × Nat) := [(⟨"ParrotLog$Log", "countKey", "(I)I"⟩, 8), (⟨"ParrotLog$Log", "countEqual", "([II)I"⟩, 8), (⟨"ParrotLog", "checkStorm", "(I)V"⟩, 9), (⟨"ParrotLog$Log", "countStorm", "(I)I"⟩, 8), (⟨"ParrotLog", "shipNumbered", "(I)LParrotLog$Ship;"⟩, 9), (⟨"ParrotLog", "lag", "(LParrotLog$Ship;)I"⟩, 9), (⟨"ParrotLog", "errorsAfter", "(LParrotLog$Ship;I)I"⟩, 9), (⟨"ParrotLog", "markCompacted", "()V"⟩, 9), (⟨"ParrotLog", "leastShipOffset", "()I"⟩, 9), (⟨"ParrotLog$Log", "markCompacted", "(I)V"⟩, 8), (⟨"ParrotLog$Log", "countMarked", "()I"⟩, 8), (⟨"ParrotLog", "checkReachable", "(I)V"⟩, 9), (⟨"ParrotLog$Log", "copyStorm", "(I[I[I)I"⟩, 8), (⟨"ParrotLog$Log", "markAhead", "(I)V"⟩, 8)]
theorem lw_r2 : ∀ q ∈ lw_privs_2, lw_okq q := List.forall_mem_cons.mpr ⟨lw_p16, List.forall_mem_cons.mpr ⟨lw_p17, List.forall_mem_cons.mpr ⟨lw_p18, List.forall_mem_cons.mpr ⟨lw_p19, List.forall_mem_cons.mpr ⟨lw_p20, List.forall_mem_cons.mpr ⟨lw_p21, List.forall_mem_cons.mpr ⟨lw_p22, List.forall_mem_cons.mpr ⟨lw_p23, List.forall_mem_cons.mpr ⟨lw_p24, List.forall_mem_cons.mpr ⟨lw_p25, List.forall_mem_cons.mpr ⟨lw_p26, List.forall_mem_cons.mpr ⟨lw_p27, List.forall_mem_cons.mpr ⟨lw_p28, List.forall_mem_cons.mpr ⟨lw_p29, fun _ h => absurd h List.not_mem_nil⟩⟩⟩⟩⟩⟩⟩⟩⟩⟩⟩⟩⟩⟩
def lw_privs : List (MethodName × Nat) := lw_privs_1 ++ (lw_privs_2)
def lw_tbl : List Cond := k2_sels lw_privs ++ tables_1
theorem lw_privs_ok : ∀ q ∈ lw_privs, lw_okq q := by
  show ∀ q ∈ lw_privs_1 ++ (lw_privs_2), lw_okq q
  exact List.forall_mem_append.mpr ⟨lw_r1, lw_r2⟩
/-- the streams that the claim lets the run draw from -/
abbrev lw_cs : List Choice := [Jvm.Choice.named "NaN.bits"]
theorem lw_bits : nanBits ∈ lw_cs := by first | decide | exact List.mem_cons_self | simp [lw_cs, nanBits]
end
section
/-! ===== BEGIN words of one list among another's, by their places ===== -/
theorem goodIn_r {big : List Cond} (ws : List Cond) (ps : List Nat) (hp : ws = ps.filterMap (fun i => big[i]?)) (h : ws.all goodWord = true) : GoodIn big ws := by
  intro w hw
  have h1 := List.all_eq_true.mp h w hw
  rw [hp] at hw
  obtain ⟨i, -, hi⟩ := List.mem_filterMap.mp hw
  have hm : w ∈ big := by first | exact List.mem_of_getElem? hi | exact List.getElem?_mem hi
  exact ⟨hm, good_of_word h1⟩
theorem goodIn_app {big a b : List Cond} (ha : GoodIn big a) (hb : GoodIn big b) : GoodIn big (a ++ b) := fun w h => (List.mem_append.mp h).elim (ha w) (hb w)
theorem goodIn_ca {big a b : List Cond} {c : Cond} (ha : GoodIn big (c :: a)) (hb : GoodIn big b) : GoodIn big (c :: (a ++ b)) := fun w h => (List.mem_cons.mp h).elim (fun e => ha w (List.mem_cons.mpr (Or.inl e))) (fun h => (List.mem_append.mp h).elim (fun h => ha w (List.mem_cons.mpr (Or.inr h))) (hb w))
theorem goodIn_sub {big ws : List Cond} (hm : ∀ w ∈ ws, w ∈ big) (h : ws.all goodWord = true) : GoodIn big ws := fun w hw => ⟨hm w hw, good_of_word (List.all_eq_true.mp h w hw)⟩
/-! ===== END ===== -/

/-! ===== BEGIN exceptions that leave a method, and their catching by the caller (launches without stack traces) ===== -/
section VXA
/-! The laws vx_back, vx_callV, vx_callS, vx_callSW, vx_throw0, vx_throwS follow proofs of the library, with one case more: JvmDerived/Free/Laws.lean (Back.of_free), Shelf42/LK1.lean (callV, callS), Shelf/KitTraced.lean (throwNew0V, throwNewS). -/
/-- where a method has thrown q: the class by its name, the cell, what was written, the world -/
def vx_T (XC : String → State → State → Prop) (st : State) (q : Addr) (t : State) (mc ms : Nat) (free : Addr → Prop) : Prop :=
  ∃ (E : String) (ce : Cell) (L : List Loc), XC E st t ∧ t.heap[q]? = some ce ∧ ce.vm = .none ∧ st.vm.findClass E = some ce.cls ∧ st.WarmedH t.vm ∧ st.sameButNew ({ t with vm := st.vm } : State) L mc ms ∧ ∀ z ∈ L, free z.base
def vx_Q (Qc : Array Value → State → Outcome → State → Prop) (XC : String → State → State → Prop) (mc ms : Nat) (free : Addr → Prop) : Array Value → State → Outcome → State → Prop := fun a st o t =>
  (Qc a st o t ∧ ∃ L, FrameEnd st o t L mc ms ∧ ∀ q ∈ L, free q.base) ∨ ∃ q, o = .threw q ∧ vx_T XC st q t mc ms free
/-- a callee that returns or throws -/
def vx_Met (l : Launch) (y : MethodName) (ws : List Cond) (rm : Room) (Pc : Array Value → State → Prop) (Qc : Array Value → State → Outcome → State → Prop) (XC : String → State → State → Prop) (mc ms : Nat) (free : Addr → Prop) : Prop :=
  MetFree l y (headSpec ws rm) Pc (fun _ _ _ _ _ => True) (vx_Q Qc XC mc ms free)
def vx_Post (XC : String → State → State → Prop) (mc ms : Nat) (free : Addr → Prop) : Pt → Array Value → Addr → Pt → Prop := fun A a q B =>
  ∃ (g : JFrame) (mk : MethodId) (t : State) (L : List Loc) (E : String) (ce : Cell), B.U.heap = t.heap ∧ B.U.vm = t.vm ∧ XC E (A.U.calling g mk a) t ∧ t.heap[q]? = some ce ∧ ce.vm = .none ∧ A.U.vm.findClass E = some ce.cls ∧ B.locs = A.locs ++ L ∧ (∀ z ∈ L, free z.base) ∧ B.cells = A.cells + mc ∧ B.slots = A.slots + ms
def vx_Back (l : Launch) (R : Room) (p : Program) (e : Env) (below : List Frame) (s : State) (sargs : Array Value) (y : MethodName) (len W9 : Nat)
    (Pre : Pt → Array Value → Prop) (Post : Pt → Array Value → Option Value → Pt → Prop) (PostX : Pt → Array Value → Addr → Pt → Prop) : Prop :=
  ∀ (m : MethodId) (meth : Method) (c : Code) (A : Pt) (g : JFrame) (ig : Instr) (mk : MethodId) (a : Array Value),
    Stand p l e R s m sargs below meth c A.U A.locs A.cells A.slots → g.method = m → g.locals.size = c.maxLocals → decode c.code g.pc = .ok (ig, len) →
    2 * g.monitorRoom + (g.stack.map fun v => v.category).sum ≤ W9 → A.U.methodNamed? y = some mk → Pre A a →
    (∃ (v : Option Value) (B : Pt), Stand p l e R s m sargs below meth c B.U B.locs B.cells B.slots ∧ Post A a v B ∧
      Steps p.tables e below (doInvoke e (A.U.setTop g) [] mk a).1 (B.U.setTop { g with pc := g.pc + len, stack := v.toList ++ g.stack })) ∨
    (∃ (q : Addr) (B : Pt), Stand p l e R s m sargs below meth c B.U B.locs B.cells B.slots ∧ PostX A a q B ∧
      Steps p.tables e below (doInvoke e (A.U.setTop g) [] mk a).1 ((B.U.setTop g).pushFrame (.throwing q)))
section Payer
variable {l : Launch} {R : Room} {p : Program} {e : Env} {below : List Frame} {s : State} {sargs : Array Value} {y : MethodName} {len W9 : Nat}
theorem vx_back {ws : List Cond} {rm : Room} {Pc : Array Value → State → Prop} {Qc : Array Value → State → Outcome → State → Prop} {XC : String → State → State → Prop} {mc ms : Nat} {free : Addr → Prop} {bytes : ByteArray} {maxL : Nat} {ret : Option FieldType}
    (hM : vx_Met l y ws rm Pc Qc XC mc ms free) (hblind : FrameBlind Pc) (hrc : rm.cells = mc) (hrs : rm.slots = ms)
    (hframes : rm.frames + 1 ≤ R.frames) (hlocals : W9 + (maxL + 11) + rm.locals ≤ R.locals)
    (hws : ∀ w ∈ ws, ∀ a' U, s.WarmedH U.vm → w.before a' U = true) (hcode : Cond.code y bytes maxL ret ∈ ws) (hinit : ∀ a' U, s.WarmedH U.vm → (Cond.initialized y.cls).before a' U = true) :
    vx_Back l R p e below s sargs y len W9 (PreOf R mc ms Pc) (PostOf Qc mc ms free) (vx_Post XC mc ms free) := by
  intro m meth c A g ig mk a X hg hsize hdg hW hn hp
  have h1 : (headSpec ws rm).pre.before a A.U = true := atoms_intro fun w hw => hws w hw _ _ X.warmed
  have h2 : (Cond.code y bytes maxL ret).before a A.U = true := hws _ hcode _ _ X.warmed
  have h3 : (Cond.initialized y.cls).before a A.U = true := hinit _ _ X.warmed
  have h4 : A.cells + (headSpec ws rm).room.cells ≤ R.cells := by rw [show (headSpec ws rm).room.cells = mc from hrc]; exact hp.1
  have h5 : A.slots + (headSpec ws rm).room.slots ≤ R.slots := by rw [show (headSpec ws rm).room.slots = ms from hrs]; exact hp.2.1
  have hPc : Pc a (A.U.calling g mk a) := hblind _ _ _ _ hp.2.2
  obtain ⟨U, Ls, c0, s0⟩ := A
  dsimp only [Pt.U, Pt.locs, Pt.cells, Pt.slots] at h1 h2 h3 h4 h5 X hn hPc ⊢
  obtain ⟨methY, cY, hmY, hcY, -, hlY, -, -, -, -⟩ := Cond.code_spec hn h2
  obtain ⟨kY, hkY, -⟩ := className_of_methodNamed hn
  have hinitY : kY.init = .initialized := Cond.initialized_spec (findClass_of_methodNamed hn) hkY h3
  have h : At U g.method c below := by rw [hg]; exact X.here
  have hlocals9 : W9 + (maxL + 11) + (headSpec ws rm).room.locals ≤ R.locals := hlocals
  have happ : (headSpec ws rm).appliesLoose y e.platform (U.calling g mk a) = true :=
    Spec.appliesLoose_calling (g := g) h hdg hn hkY hinitY
      (X.room_calling (g := g) (R' := (headSpec ws rm).room) hsize hmY hcY hframes (by rw [hlY]; omega) h4 h5) h1
  obtain ⟨mid, hmid⟩ := h.above
  have hfr : (U.setTop g).frames = (.java g :: mid) ++ below := by rw [State.frames_setTop' g h.top, hmid]; rfl
  obtain ⟨o, s₂, hsteps, -, hend, hq⟩ := Steps.callFree hM p X.admits X.cas X.clock (acts := []) hfr happ hPc trivial
  have hq' : vx_Q Qc XC mc ms free a (U.calling g mk a) o s₂ := hq
  rw [State.frames_setTop' g h.top] at hend
  obtain ⟨g₀, hg0⟩ := Option.isSome_iff_exists.mp h.top
  obtain ⟨r, hr⟩ := State.topJava?_eq_some.mp hg0
  have hr' : (({ U with heap := s₂.heap, slotsUsed := s₂.slotsUsed } : State).setVm s₂.vm).frames = .java g₀ :: r := hr
  rcases hq' with ⟨hqc, L, hfe, hL⟩ | ⟨q, rfl, E, ce, L, hx, hce, hcv, hcl, hW₂, hsm, hL⟩
  · obtain ⟨⟨v, rfl⟩, hW₂, e2, q2, q3, q4, q5, q6⟩ := id hfe
    have e3 : s₂ = ({ (U.calling g mk a).setFrames s₂.frames with heap := s₂.heap, slotsUsed := s₂.slotsUsed } : State).setVm s₂.vm := by
      have : s₂ = ({ s₂ with vm := (U.calling g mk a).vm } : State).setVm s₂.vm := rfl
      rw [e2] at this
      exact this
    obtain ⟨c₂, i₂, len₂, hc₂, hd₂, hf₂⟩ := hend
    have hW' : U.WarmedH s₂.vm := hW₂
    have hcc : c₂ = c := by
      have h1 : s₂.code? g.method = U.code? g.method := by
        rw [State.code?_eq, State.code?_eq, hW'.alike.method?]
      exact Option.some.inj (hc₂.symm.trans (h1.trans h.code))
    subst hcc
    have hlen : len₂ = len := by rw [hdg] at hd₂; cases hd₂; rfl
    subst hlen
    have hs₂ : s₂ = (({ U with heap := s₂.heap, slotsUsed := s₂.slotsUsed } : State).setVm s₂.vm).setTop { g with pc := g.pc + len₂, stack := v.toList ++ g.stack } := by
      refine e3.trans ?_
      rw [hf₂, State.calling_eq h.top, State.setFrames_setFrames, State.setTop_of_frames _ hr', hr]
      rfl
    have hsame : U.sameButNew ({ U with heap := s₂.heap, slotsUsed := s₂.slotsUsed } : State) L mc ms := by
      refine ⟨?_, q2, q3, q4, q5, q6⟩
      obtain ⟨t, ht, -⟩ := State.frames_cons hr
      show ({ U with heap := s₂.heap, slotsUsed := s₂.slotsUsed } : State) = { U.setFrames U.frames with heap := s₂.heap, slotsUsed := s₂.slotsUsed }
      rw [State.setFrames_self ht]
    subst hg
    refine Or.inl ⟨v, ⟨(({ U with heap := s₂.heap, slotsUsed := s₂.slotsUsed } : State).setVm s₂.vm), Ls ++ L, c0 + mc, s0 + ms⟩,
      ⟨X.admits, X.cas, X.clock, X.frames, X.room, X.hears, X.method, X.code, (X.here.setHeapUsed s₂.heap s₂.slotsUsed).setVm hW'.alike, X.tail, State.WarmedH.trans X.warmed hW', X.limits, X.bytes, X.same.trans (hsame.setVm s.vm)⟩,
      ⟨g, mk, s₂, L, rfl, rfl, hqc, rfl, hL, rfl, rfl⟩, ?_⟩
    show Steps p.tables e below _ ((({ U with heap := s₂.heap, slotsUsed := s₂.slotsUsed } : State).setVm s₂.vm).setTop { g with pc := g.pc + len₂, stack := v.toList ++ g.stack })
    rw [← hs₂]
    exact hsteps
  · obtain ⟨e2, q2, q3, q4, q5, q6⟩ := id hsm
    have e3 : s₂ = ({ (U.calling g mk a).setFrames s₂.frames with heap := s₂.heap, slotsUsed := s₂.slotsUsed } : State).setVm s₂.vm := by
      have : s₂ = ({ s₂ with vm := (U.calling g mk a).vm } : State).setVm s₂.vm := rfl
      rw [e2] at this
      exact this
    have hf₂ : s₂.frames = .throwing q :: .java g :: U.frames.tail := hend
    have hW' : U.WarmedH s₂.vm := hW₂
    have hs₂ : s₂ = ((({ U with heap := s₂.heap, slotsUsed := s₂.slotsUsed } : State).setVm s₂.vm).setTop g).pushFrame (.throwing q) := by
      refine e3.trans ?_
      rw [hf₂, State.calling_eq h.top, State.setFrames_setFrames, State.pushFrame, State.frames_setTop _ hr', State.setTop_of_frames _ hr', State.setFrames_setFrames, hr]
      rfl
    have hsame : U.sameButNew ({ U with heap := s₂.heap, slotsUsed := s₂.slotsUsed } : State) L mc ms := by
      refine ⟨?_, q2, q3, q4, q5, q6⟩
      obtain ⟨t, ht, -⟩ := State.frames_cons hr
      show ({ U with heap := s₂.heap, slotsUsed := s₂.slotsUsed } : State) = { U.setFrames U.frames with heap := s₂.heap, slotsUsed := s₂.slotsUsed }
      rw [State.setFrames_self ht]
    subst hg
    refine Or.inr ⟨q, ⟨(({ U with heap := s₂.heap, slotsUsed := s₂.slotsUsed } : State).setVm s₂.vm), Ls ++ L, c0 + mc, s0 + ms⟩,
      ⟨X.admits, X.cas, X.clock, X.frames, X.room, X.hears, X.method, X.code, (X.here.setHeapUsed s₂.heap s₂.slotsUsed).setVm hW'.alike, X.tail, State.WarmedH.trans X.warmed hW', X.limits, X.bytes, X.same.trans (hsame.setVm s.vm)⟩,
      ⟨g, mk, s₂, L, E, ce, rfl, rfl, hx, hce, hcv, hcl, rfl, hL, rfl, rfl⟩, ?_⟩
    show Steps p.tables e below _ (((({ U with heap := s₂.heap, slotsUsed := s₂.slotsUsed } : State).setVm s₂.vm).setTop g).pushFrame (.throwing q))
    rw [← hs₂]
    exact hsteps
end Payer
section Calls
variable {p : Program} {l : Launch} {e : Env} {R : Room} {s : State} {m : MethodId} {args : Array Value} {below : List Frame} {meth : Method} {c : Code} {T : State} {locs : List Loc} {cells slots : Nat}
theorem vx_callV (X : Stand p l e R s m args below meth c T locs cells slots) (hexec : p.tables.exec = Jvm.exec) {own C : String} {index : Nat} {y : MethodName} {bytes : ByteArray} {maxL : Nat} {ret : Option FieldType}
    (hown : s.vm.findClass own = some m.cls) (hlink : (Cond.methodLink own index y).before args s = true) (hinst : (Cond.instanceMethod y).before args s = true) (hsel : (Cond.selects C y y).before args s = true)
    (hcode : (Cond.code y bytes maxL ret).before args s = true) (hy : y.cls ≠ "java/lang/invoke/MethodHandle" ∧ y.cls ≠ "java/lang/invoke/VarHandle")
    {W9 : Nat} {Pre : Pt → Array Value → Prop} {Post : Pt → Array Value → Option Value → Pt → Prop} {PostX : Pt → Array Value → Addr → Pt → Prop} (hK : vx_Back l R p e below s args y 3 W9 Pre Post PostX)
    {b : Addr} {cellB : Cell} (hcell : T.heap[b]? = some cellB) (hobj : cellB.vm.isStatics = false) (hcls : s.vm.findClass C = some cellB.cls)
    {g : JFrame} (hg : g.method = m) (hsize : g.locals.size = c.maxLocals) {argsL rest : List Value} (hlen : ∀ sig, parseMethodDescriptor y.desc = some sig → argsL.length = sig.parameters.length)
    (hstack : g.stack = argsL.reverse ++ .ref b :: rest) (hW : 2 * g.monitorRoom + (rest.map fun v => v.category).sum ≤ W9) (hdg : decode c.code g.pc = .ok (.invokevirtual index, 3))
    (hpre : ∀ vm₁, s.WarmedH vm₁ → Pre ⟨T.setVm vm₁, locs, cells, slots⟩ (Value.ref b :: argsL).toArray) :
    (∃ (v : Option Value) (vm₁ : Vm) (B : Pt), s.WarmedH vm₁ ∧ Stand p l e R s m args below meth c B.U B.locs B.cells B.slots ∧ Post ⟨T.setVm vm₁, locs, cells, slots⟩ (Value.ref b :: argsL).toArray v B ∧
      ∀ target, Steps p.tables e below (B.U.setTop { g with pc := g.pc + 3, stack := v.toList ++ rest }) target → Steps p.tables e below (T.setTop g) target) ∨
    (∃ (q : Addr) (vm₁ : Vm) (B : Pt), s.WarmedH vm₁ ∧ Stand p l e R s m args below meth c B.U B.locs B.cells B.slots ∧ PostX ⟨T.setVm vm₁, locs, cells, slots⟩ (Value.ref b :: argsL).toArray q B ∧
      Steps p.tables e below (T.setTop g) ((B.U.setTop { g with stack := rest }).pushFrame (.throwing q))) := by
  obtain ⟨mk, methM, hnamed, hmethM, hstM, habM⟩ := Cond.instanceMethod_spec hinst
  obtain ⟨methM', cM, hmethM', -, -, -, -, -, -, hsigM⟩ := Cond.code_spec hnamed hcode
  cases hmethM.symm.trans hmethM'
  obtain ⟨c2, r2, m2, q1, q2, q3, q4, kP, hkP, hkPi⟩ := Cond.selects_spec hsel
  cases hcls.symm.trans q1
  cases (State.methodFound?_of_named hnamed hy).symm.trans q2
  cases hnamed.symm.trans q3
  have hselP : selectMethod e.platform s.vm cellB.cls mk = .method mk := by rw [Launch.admits_selectMethod X.admits]; exact q4
  obtain ⟨vm₁, X₁, hstep₁⟩ := X.invokevirtual hexec hown hlink hnamed hmethM hstM hkP hkPi hy (a := b) (cell := cellB) hcell
    (fun z h => by rw [h] at hobj; cases hobj) hselP hmethM habM hkP hkPi (g := g) hg (argsL := argsL) (rest := rest) (hlen _ hsigM) hstack hdg
  rcases hK m meth c ⟨T.setVm vm₁, locs, cells, slots⟩ { g with stack := rest } (.invokevirtual index) mk (Value.ref b :: argsL).toArray X₁ hg hsize hdg hW (X₁.named hnamed) (hpre vm₁ X₁.warmed) with ⟨v, B, X', hpost, hsteps⟩ | ⟨q, B, X', hpost, hsteps⟩
  · exact Or.inl ⟨v, vm₁, B, X₁.warmed, X', hpost, fun target h => hstep₁ _ fun acts => by rw [doInvoke_state]; exact hsteps.trans h⟩
  · exact Or.inr ⟨q, vm₁, B, X₁.warmed, X', hpost, hstep₁ _ fun acts => by rw [doInvoke_state]; exact hsteps⟩
theorem vx_callS (X : Stand p l e R s m args below meth c T locs cells slots) (hexec : p.tables.exec = Jvm.exec) {own : String} {index : Nat} {y : MethodName} {bytes : ByteArray} {maxL : Nat} {ret : Option FieldType}
    (hown : s.vm.findClass own = some m.cls) (hlink : (Cond.methodLink own index y).before args s = true) (hstat : (Cond.static y).before args s = true) (hinit : (Cond.initialized y.cls).before args s = true)
    (hcode : (Cond.code y bytes maxL ret).before args s = true) (hy : y.cls ≠ "java/lang/invoke/MethodHandle" ∧ y.cls ≠ "java/lang/invoke/VarHandle")
    {W9 : Nat} {Pre : Pt → Array Value → Prop} {Post : Pt → Array Value → Option Value → Pt → Prop} {PostX : Pt → Array Value → Addr → Pt → Prop} (hK : vx_Back l R p e below s args y 3 W9 Pre Post PostX)
    {g : JFrame} (hg : g.method = m) (hsize : g.locals.size = c.maxLocals) {argsL rest : List Value} (hlen : ∀ sig, parseMethodDescriptor y.desc = some sig → argsL.length = sig.parameters.length)
    (hstack : g.stack = argsL.reverse ++ rest) (hW : 2 * g.monitorRoom + (rest.map fun v => v.category).sum ≤ W9) (hdg : decode c.code g.pc = .ok (.invokestatic index, 3))
    (hpre : ∀ vm₁, s.WarmedH vm₁ → Pre ⟨T.setVm vm₁, locs, cells, slots⟩ argsL.toArray) :
    (∃ (v : Option Value) (vm₁ : Vm) (B : Pt), s.WarmedH vm₁ ∧ Stand p l e R s m args below meth c B.U B.locs B.cells B.slots ∧ Post ⟨T.setVm vm₁, locs, cells, slots⟩ argsL.toArray v B ∧
      ∀ target, Steps p.tables e below (B.U.setTop { g with pc := g.pc + 3, stack := v.toList ++ rest }) target → Steps p.tables e below (T.setTop g) target) ∨
    (∃ (q : Addr) (vm₁ : Vm) (B : Pt), s.WarmedH vm₁ ∧ Stand p l e R s m args below meth c B.U B.locs B.cells B.slots ∧ PostX ⟨T.setVm vm₁, locs, cells, slots⟩ argsL.toArray q B ∧
      Steps p.tables e below (T.setTop g) ((B.U.setTop { g with stack := rest }).pushFrame (.throwing q))) := by
  obtain ⟨mk, hnamed⟩ := Cond.code_named hcode
  obtain ⟨methM, cM, hmethM, -, -, -, -, -, -, hsigM⟩ := Cond.code_spec hnamed hcode
  have hstatic : methM.isStatic = true := Cond.static_spec hnamed hmethM hstat
  obtain ⟨kP, hkP, -⟩ := className_of_methodNamed hnamed
  have hinitP : kP.init = .initialized := Cond.initialized_spec (findClass_of_methodNamed hnamed) hkP hinit
  obtain ⟨vm₁, X₁, hstep₁⟩ := X.invokestatic hexec hown hlink hnamed hmethM hstatic hkP hinitP hy (g := g) hg (argsL := argsL) (rest := rest) (hlen _ hsigM) hstack hdg
  rcases hK m meth c ⟨T.setVm vm₁, locs, cells, slots⟩ { g with stack := rest } (.invokestatic index) mk argsL.toArray X₁ hg hsize hdg hW (X₁.named hnamed) (hpre vm₁ X₁.warmed) with ⟨v, B, X', hpost, hsteps⟩ | ⟨q, B, X', hpost, hsteps⟩
  · exact Or.inl ⟨v, vm₁, B, X₁.warmed, X', hpost, fun target h => hstep₁ _ fun acts => by rw [doInvoke_state]; exact hsteps.trans h⟩
  · exact Or.inr ⟨q, vm₁, B, X₁.warmed, X', hpost, hstep₁ _ fun acts => by rw [doInvoke_state]; exact hsteps⟩
end Calls
theorem vx_cls {s : State} {T : State} {vm₁ : Vm} {E : String} {k : ClassId} (hW : s.WarmedH vm₁) (h : (T.setVm vm₁).vm.findClass E = some k) : s.vm.findClass E = some k := by
  have h1 : vm₁.findClass E = some k := h
  rw [hW.alike.findClass] at h1
  exact h1
/-- the method's frame g, with q thrown over it -/
def vx_W (p : Program) (l : Launch) (e : Env) (R : Room) (s : State) (m : MethodId) (args : Array Value) (below : List Frame) (meth : Method) (c : Code) (H : Heap) (locs : List Loc) (cells slots : Nat) (Q : State → Prop) (g : JFrame) (q : Addr) : Prop :=
  ∀ T : State, T.heap = H → Stand p l e R s m args below meth c T locs cells slots → ∃ t, Steps p.tables e below ((T.setTop g).pushFrame (.throwing q)) t ∧ Q t
def vx_Run (p : Program) (l : Launch) (e : Env) (R : Room) (s : State) (m : MethodId) (args : Array Value) (below : List Frame) (meth : Method) (c : Code) (H : Heap) (locs : List Loc) (cells slots mc ms : Nat) (g : JFrame) (rest : List Value) (Qa : State → Outcome → State → Prop) (XC : String → State → State → Prop) (free : Addr → Prop) : Prop :=
  ∀ T : State, T.heap = H → Stand p l e R s m args below meth c T locs cells slots →
    (∃ (v : Option Value) (st₀ t T' : State) (L : List Loc), st₀.heap = H ∧ Stand p l e R s m args below meth c T' (locs ++ L) (cells + mc) (slots + ms) ∧ (∀ q ∈ L, free q.base) ∧ T'.heap = t.heap ∧ T'.vm = t.vm ∧ Qa st₀ (.returned v) t ∧
      Goes p e below T g T' { g with pc := g.pc + 3, stack := v.toList ++ rest }) ∨
    (∃ (q : Addr) (st₀ t T' : State) (L : List Loc) (E : String) (ce : Cell), st₀.heap = H ∧ Stand p l e R s m args below meth c T' (locs ++ L) (cells + mc) (slots + ms) ∧ (∀ z ∈ L, free z.base) ∧ T'.heap = t.heap ∧ T'.vm = t.vm ∧ XC E st₀ t ∧ t.heap[q]? = some ce ∧ ce.vm = .none ∧ s.vm.findClass E = some ce.cls ∧
      Steps p.tables e below (T.setTop g) ((T'.setTop { g with stack := rest }).pushFrame (.throwing q)))
def vx_X {S : Type} (px : S → Prop) (B : String → S → State → Prop) (A : Nat → Prop) : String → State → State → Prop := fun E st t => ∃ u : S, px u ∧ B E u t ∧ va_F A st t
section Runs
variable {p : Program} {l : Launch} {e : Env} {R : Room} {s : State} {m : MethodId} {args : Array Value} {below : List Frame} {meth : Method} {c : Code} {H : Heap} {locs : List Loc} {cells slots : Nat}
variable {y : MethodName} {bytes cc : ByteArray} {maxL nL mc ms n index : Nat} {ret : Option FieldType} {ws : List Cond} {rm : Room} {Pc : Array Value → State → Prop} {Qc : Array Value → State → Outcome → State → Prop} {XC : String → State → State → Prop} {free : Addr → Prop} {Ts : List Cond} {own C : String} {b : Addr} {As rest : List Value} {g : JFrame}
theorem vx_callBack (cb : CallB R s args own index y bytes maxL ret ws rm mc ms n) (hM : vx_Met l y ws rm Pc Qc XC mc ms free) (hbl : FrameBlind Pc) : vx_Back l R p e below s args y 3 8 (PreOf R mc ms Pc) (PostOf Qc mc ms free) (vx_Post XC mc ms free) := by
  obtain ⟨hrc, hrs, hfr, hlo, hws, hcw, -, hini, -⟩ := cb
  exact vx_back (bytes := bytes) (maxL := maxL) (ret := ret) hM hbl hrc hrs hfr hlo hws hcw (fun a' U hW => word_at hW (Or.inl (by first | rfl | simp [Cond.onTables, Cond.keeps, Cond.steady])) hini)
theorem vx_runV (S : CallFix p m c cc nL s args Ts own) (hM : vx_Met l y ws rm Pc Qc XC mc ms free) (cw : CallW R s args own C index y bytes maxL ret ws rm mc ms n) (hp : PreV s H C b Pc As)
    (hg : g.method = m) (hn : As.length = n) (hsize : g.locals.size = nL) (hstack : g.stack = As.reverse ++ .ref b :: rest) (hW : 2 * g.monitorRoom + (rest.map fun v => v.category).sum ≤ 8) (hdg : decode cc g.pc = .ok (.invokevirtual index, 3)) (hf : cells + mc ≤ R.cells ∧ slots + ms ≤ R.slots) :
    vx_Run p l e R s m args below meth c H locs cells slots mc ms g rest (Qc (Value.ref b :: As).toArray) XC free := by
  have hK : vx_Back l R p e below s args y 3 8 (PreOf R mc ms Pc) (PostOf Qc mc ms free) (vx_Post XC mc ms free) := vx_callBack cw.1 hM hp.1
  obtain ⟨⟨-, -, -, -, -, -, hcode, -, hy, hlen, hl⟩, hin, hse⟩ := cw
  obtain ⟨hx, hb, hml, ho, -⟩ := S
  obtain ⟨-, ⟨cellB, hcB, hoB, hclB⟩, hPc⟩ := hp
  intro T hT X
  rcases vx_callV X hx (C := C) (bytes := bytes) (maxL := maxL) (ret := ret) ho hl hin hse hcode hy hK (by rw [hT]; exact hcB) hoB hclB hg (hsize.trans hml.symm) (argsL := As) (rest := rest) (fun sig h => hn.trans (hlen sig h)) hstack hW (by rw [hb]; exact hdg)
    (fun vm₁ hW₁ => ⟨hf.1, hf.2, hPc (T.setVm vm₁) hT hW₁⟩) with ⟨v, vm₁, ⟨U', l2, c2, s2⟩, hW₁, X', ⟨g', mk, t, L, e1, e2, hq, h1, hL, h2, h3⟩, st⟩ | ⟨q, vm₁, ⟨U', l2, c2, s2⟩, hW₁, X', ⟨g', mk, t, L, E, ce, e1, e2, hq, hce, hcv, hcl, h1, hL, h2, h3⟩, st⟩
  · dsimp only [Pt.U, Pt.locs, Pt.cells, Pt.slots] at X' e1 e2 h1 h2 h3 st
    subst h1; subst h2; subst h3
    exact Or.inl ⟨v, (T.setVm vm₁).calling g' mk (Value.ref b :: As).toArray, t, U', L, hT, X', hL, e1, e2, hq, st⟩
  · dsimp only [Pt.U, Pt.locs, Pt.cells, Pt.slots] at X' e1 e2 h1 h2 h3 st hcl
    subst h1; subst h2; subst h3
    exact Or.inr ⟨q, (T.setVm vm₁).calling g' mk (Value.ref b :: As).toArray, t, U', L, E, ce, hT, X', hL, e1, e2, hq, hce, hcv, vx_cls hW₁ hcl, st⟩
theorem vx_runS (S : CallFix p m c cc nL s args Ts own) (hM : vx_Met l y ws rm Pc Qc XC mc ms free) (cw : CallB R s args own index y bytes maxL ret ws rm mc ms n ∧ (Cond.static y).before args s = true) (hp : PreS s H Pc As)
    (hg : g.method = m) (hn : As.length = n) (hsize : g.locals.size = nL) (hstack : g.stack = As.reverse ++ rest) (hW : 2 * g.monitorRoom + (rest.map fun v => v.category).sum ≤ 8) (hdg : decode cc g.pc = .ok (.invokestatic index, 3)) (hf : cells + mc ≤ R.cells ∧ slots + ms ≤ R.slots) :
    vx_Run p l e R s m args below meth c H locs cells slots mc ms g rest (Qc As.toArray) XC free := by
  have hK : vx_Back l R p e below s args y 3 8 (PreOf R mc ms Pc) (PostOf Qc mc ms free) (vx_Post XC mc ms free) := vx_callBack cw.1 hM hp.1
  obtain ⟨⟨-, -, -, -, -, -, hcode, hini, hy, hlen, hl⟩, hstt⟩ := cw
  obtain ⟨hx, hb, hml, ho, -⟩ := S
  intro T hT X
  rcases vx_callS X hx (bytes := bytes) (maxL := maxL) (ret := ret) ho hl hstt hini hcode hy hK hg (hsize.trans hml.symm) (argsL := As) (rest := rest) (fun sig h => hn.trans (hlen sig h)) hstack hW (by rw [hb]; exact hdg)
    (fun vm₁ hW₁ => ⟨hf.1, hf.2, hp.2 (T.setVm vm₁) hT hW₁⟩) with ⟨v, vm₁, ⟨U', l2, c2, s2⟩, hW₁, X', ⟨g', mk, t, L, e1, e2, hq, h1, hL, h2, h3⟩, st⟩ | ⟨q, vm₁, ⟨U', l2, c2, s2⟩, hW₁, X', ⟨g', mk, t, L, E, ce, e1, e2, hq, hce, hcv, hcl, h1, hL, h2, h3⟩, st⟩
  · dsimp only [Pt.U, Pt.locs, Pt.cells, Pt.slots] at X' e1 e2 h1 h2 h3 st
    subst h1; subst h2; subst h3
    exact Or.inl ⟨v, (T.setVm vm₁).calling g' mk As.toArray, t, U', L, hT, X', hL, e1, e2, hq, st⟩
  · dsimp only [Pt.U, Pt.locs, Pt.cells, Pt.slots] at X' e1 e2 h1 h2 h3 st hcl
    subst h1; subst h2; subst h3
    exact Or.inr ⟨q, (T.setVm vm₁).calling g' mk As.toArray, t, U', L, E, ce, hT, X', hL, e1, e2, hq, hce, hcv, vx_cls hW₁ hcl, st⟩
end Runs
section Rows
variable {p : Program} {l : Launch} {e : Env} {R : Room} {s : State} {m : MethodId} {args : Array Value} {below : List Frame} {meth : Method} {c : Code} {H : Heap} {locs : List Loc} {cells slots : Nat} {Q : State → Prop}
variable {mc ms : Nat} {free : Addr → Prop} {A0 A1 : Nat → Prop} {H0 : Heap} {a : Array Value} {pc : Nat} {ls : Array Slot} {st0 rest : List Value}
theorem vx_keep {st₀ t T' : State} {L : List Loc} (h0 : st₀.heap = H) (e1 : T'.heap = t.heap) (hS : va_S A0 H0 H locs) (hA : ∀ q, q < H.size → A1 q → A0 q) (hf : ∀ q, free q → A0 q) (hL : ∀ q ∈ L, free q.base) (hF : va_F A1 st₀ t) :
    H.size ≤ T'.heap.size ∧ (∀ q : Nat, q < H.size → ¬ A1 q → T'.heap[q]? = H[q]?) ∧ va_S A0 H0 T'.heap (locs ++ L) := by
  obtain ⟨hz, hk⟩ := hF
  rw [h0] at hz hk
  exact ⟨by rw [e1]; exact hz, fun q h1 h2 => by rw [e1]; exact hk q h1 h2,
    ⟨Nat.le_trans hS.1 (by rw [e1]; exact hz), fun q h1 h2 => by rw [e1, hk q (Nat.lt_of_lt_of_le h1 hS.1) (fun z => h2 (hA q (Nat.lt_of_lt_of_le h1 hS.1) z))]; exact hS.2.1 q h1 h2, fun q hq => by
      rcases List.mem_append.mp hq with h | h
      · exact hS.2.2 q h
      · exact hf _ (hL q h)⟩⟩
theorem vx_calli {S SX : Type} {post : Int32 → S → Prop} {px : SX → Prop} {B : S → State → Prop} {BX : String → SX → State → Prop} {AX : Nat → Prop} (hr : vx_Run p l e R s m args below meth c H locs cells slots mc ms (F0 m pc ls st0) rest (va_Qi post B A1 a) (vx_X px BX AX) free) (hS : va_S A0 H0 H locs) (hA : ∀ q, q < H.size → A1 q → A0 q) (hf : ∀ q, free q → A0 q) (hAX : ∀ q, q < H.size → AX q → A0 q)
    (kx : ∀ (E : String) (ce : Cell) (q9 : Addr) (u : SX) (t : State) (H1 : Heap) (locs1 : List Loc), t.heap = H1 → s.vm.Alike t.vm → px u → BX E u t → H.size ≤ H1.size → (∀ q : Nat, q < H.size → ¬ AX q → H1[q]? = H[q]?) → va_S A0 H0 H1 locs1 → H1[q9]? = some ce → ce.vm = .none → s.vm.findClass E = some ce.cls → vx_W p l e R s m args below meth c H1 locs1 (cells + mc) (slots + ms) Q (F0 m pc ls rest) q9)
    (kk : ∀ (r : Int32) (u : S) (t : State) (H1 : Heap) (locs1 : List Loc), t.heap = H1 → s.vm.Alike t.vm → post r u → B u t → H.size ≤ H1.size → (∀ q : Nat, q < H.size → ¬ A1 q → H1[q]? = H[q]?) → va_S A0 H0 H1 locs1 → W p l e R s m args below meth c H1 locs1 (cells + mc) (slots + ms) Q (F0 m (pc + 3) ls (.int r :: rest))) : W p l e R s m args below meth c H locs cells slots Q (F0 m pc ls st0) := by
  intro T hT X
  rcases hr T hT X with ⟨v, st₀, t, T', L, h0, X', hL, e1, e2, ⟨⟨r, u, hv, hp, hb⟩, hF⟩, st⟩ | ⟨q, st₀, t, T', L, E, ce, h0, X', hL, e1, e2, ⟨u, hp, hb, hF⟩, hce, hcv, hcl, st⟩
  · cases hv
    obtain ⟨k1, k2, k3⟩ := vx_keep h0 e1 hS hA hf hL hF
    obtain ⟨t2, a1, b1⟩ := kk r u t T'.heap (locs ++ L) e1.symm (by rw [← e2]; exact X'.warmed.alike) hp hb k1 k2 k3 T' rfl X'
    exact ⟨t2, st t2 a1, b1⟩
  · obtain ⟨k1, k2, k3⟩ := vx_keep h0 e1 hS hAX hf hL hF
    obtain ⟨t2, a1, b1⟩ := kx E ce q u t T'.heap (locs ++ L) e1.symm (by rw [← e2]; exact X'.warmed.alike) hp hb k1 k2 k3 (by rw [e1]; exact hce) hcv hcl T' rfl X'
    exact ⟨t2, st.trans a1, b1⟩
theorem vx_calll {S SX : Type} {post : Int64 → S → Prop} {px : SX → Prop} {B : S → State → Prop} {BX : String → SX → State → Prop} {AX : Nat → Prop} (hr : vx_Run p l e R s m args below meth c H locs cells slots mc ms (F0 m pc ls st0) rest (va_Ql post B A1 a) (vx_X px BX AX) free) (hS : va_S A0 H0 H locs) (hA : ∀ q, q < H.size → A1 q → A0 q) (hf : ∀ q, free q → A0 q) (hAX : ∀ q, q < H.size → AX q → A0 q)
    (kx : ∀ (E : String) (ce : Cell) (q9 : Addr) (u : SX) (t : State) (H1 : Heap) (locs1 : List Loc), t.heap = H1 → s.vm.Alike t.vm → px u → BX E u t → H.size ≤ H1.size → (∀ q : Nat, q < H.size → ¬ AX q → H1[q]? = H[q]?) → va_S A0 H0 H1 locs1 → H1[q9]? = some ce → ce.vm = .none → s.vm.findClass E = some ce.cls → vx_W p l e R s m args below meth c H1 locs1 (cells + mc) (slots + ms) Q (F0 m pc ls rest) q9)
    (kk : ∀ (r : Int64) (u : S) (t : State) (H1 : Heap) (locs1 : List Loc), t.heap = H1 → s.vm.Alike t.vm → post r u → B u t → H.size ≤ H1.size → (∀ q : Nat, q < H.size → ¬ A1 q → H1[q]? = H[q]?) → va_S A0 H0 H1 locs1 → W p l e R s m args below meth c H1 locs1 (cells + mc) (slots + ms) Q (F0 m (pc + 3) ls (.long r :: rest))) : W p l e R s m args below meth c H locs cells slots Q (F0 m pc ls st0) := by
  intro T hT X
  rcases hr T hT X with ⟨v, st₀, t, T', L, h0, X', hL, e1, e2, ⟨⟨r, u, hv, hp, hb⟩, hF⟩, st⟩ | ⟨q, st₀, t, T', L, E, ce, h0, X', hL, e1, e2, ⟨u, hp, hb, hF⟩, hce, hcv, hcl, st⟩
  · cases hv
    obtain ⟨k1, k2, k3⟩ := vx_keep h0 e1 hS hA hf hL hF
    obtain ⟨t2, a1, b1⟩ := kk r u t T'.heap (locs ++ L) e1.symm (by rw [← e2]; exact X'.warmed.alike) hp hb k1 k2 k3 T' rfl X'
    exact ⟨t2, st t2 a1, b1⟩
  · obtain ⟨k1, k2, k3⟩ := vx_keep h0 e1 hS hAX hf hL hF
    obtain ⟨t2, a1, b1⟩ := kx E ce q u t T'.heap (locs ++ L) e1.symm (by rw [← e2]; exact X'.warmed.alike) hp hb k1 k2 k3 (by rw [e1]; exact hce) hcv hcl T' rfl X'
    exact ⟨t2, st.trans a1, b1⟩
theorem vx_callf {S SX : Type} {post : UInt32 → S → Prop} {px : SX → Prop} {B : S → State → Prop} {BX : String → SX → State → Prop} {AX : Nat → Prop} (hr : vx_Run p l e R s m args below meth c H locs cells slots mc ms (F0 m pc ls st0) rest (va_Qf post B A1 a) (vx_X px BX AX) free) (hS : va_S A0 H0 H locs) (hA : ∀ q, q < H.size → A1 q → A0 q) (hf : ∀ q, free q → A0 q) (hAX : ∀ q, q < H.size → AX q → A0 q)
    (kx : ∀ (E : String) (ce : Cell) (q9 : Addr) (u : SX) (t : State) (H1 : Heap) (locs1 : List Loc), t.heap = H1 → s.vm.Alike t.vm → px u → BX E u t → H.size ≤ H1.size → (∀ q : Nat, q < H.size → ¬ AX q → H1[q]? = H[q]?) → va_S A0 H0 H1 locs1 → H1[q9]? = some ce → ce.vm = .none → s.vm.findClass E = some ce.cls → vx_W p l e R s m args below meth c H1 locs1 (cells + mc) (slots + ms) Q (F0 m pc ls rest) q9)
    (kk : ∀ (r : UInt32) (u : S) (t : State) (H1 : Heap) (locs1 : List Loc), t.heap = H1 → s.vm.Alike t.vm → post r u → B u t → H.size ≤ H1.size → (∀ q : Nat, q < H.size → ¬ A1 q → H1[q]? = H[q]?) → va_S A0 H0 H1 locs1 → W p l e R s m args below meth c H1 locs1 (cells + mc) (slots + ms) Q (F0 m (pc + 3) ls (.float r :: rest))) : W p l e R s m args below meth c H locs cells slots Q (F0 m pc ls st0) := by
  intro T hT X
  rcases hr T hT X with ⟨v, st₀, t, T', L, h0, X', hL, e1, e2, ⟨⟨r, u, hv, hp, hb⟩, hF⟩, st⟩ | ⟨q, st₀, t, T', L, E, ce, h0, X', hL, e1, e2, ⟨u, hp, hb, hF⟩, hce, hcv, hcl, st⟩
  · cases hv
    obtain ⟨k1, k2, k3⟩ := vx_keep h0 e1 hS hA hf hL hF
    obtain ⟨t2, a1, b1⟩ := kk r u t T'.heap (locs ++ L) e1.symm (by rw [← e2]; exact X'.warmed.alike) hp hb k1 k2 k3 T' rfl X'
    exact ⟨t2, st t2 a1, b1⟩
  · obtain ⟨k1, k2, k3⟩ := vx_keep h0 e1 hS hAX hf hL hF
    obtain ⟨t2, a1, b1⟩ := kx E ce q u t T'.heap (locs ++ L) e1.symm (by rw [← e2]; exact X'.warmed.alike) hp hb k1 k2 k3 (by rw [e1]; exact hce) hcv hcl T' rfl X'
    exact ⟨t2, st.trans a1, b1⟩
theorem vx_calld {S SX : Type} {post : UInt64 → S → Prop} {px : SX → Prop} {B : S → State → Prop} {BX : String → SX → State → Prop} {AX : Nat → Prop} (hr : vx_Run p l e R s m args below meth c H locs cells slots mc ms (F0 m pc ls st0) rest (va_Qd post B A1 a) (vx_X px BX AX) free) (hS : va_S A0 H0 H locs) (hA : ∀ q, q < H.size → A1 q → A0 q) (hf : ∀ q, free q → A0 q) (hAX : ∀ q, q < H.size → AX q → A0 q)
    (kx : ∀ (E : String) (ce : Cell) (q9 : Addr) (u : SX) (t : State) (H1 : Heap) (locs1 : List Loc), t.heap = H1 → s.vm.Alike t.vm → px u → BX E u t → H.size ≤ H1.size → (∀ q : Nat, q < H.size → ¬ AX q → H1[q]? = H[q]?) → va_S A0 H0 H1 locs1 → H1[q9]? = some ce → ce.vm = .none → s.vm.findClass E = some ce.cls → vx_W p l e R s m args below meth c H1 locs1 (cells + mc) (slots + ms) Q (F0 m pc ls rest) q9)
    (kk : ∀ (r : UInt64) (u : S) (t : State) (H1 : Heap) (locs1 : List Loc), t.heap = H1 → s.vm.Alike t.vm → post r u → B u t → H.size ≤ H1.size → (∀ q : Nat, q < H.size → ¬ A1 q → H1[q]? = H[q]?) → va_S A0 H0 H1 locs1 → W p l e R s m args below meth c H1 locs1 (cells + mc) (slots + ms) Q (F0 m (pc + 3) ls (.double r :: rest))) : W p l e R s m args below meth c H locs cells slots Q (F0 m pc ls st0) := by
  intro T hT X
  rcases hr T hT X with ⟨v, st₀, t, T', L, h0, X', hL, e1, e2, ⟨⟨r, u, hv, hp, hb⟩, hF⟩, st⟩ | ⟨q, st₀, t, T', L, E, ce, h0, X', hL, e1, e2, ⟨u, hp, hb, hF⟩, hce, hcv, hcl, st⟩
  · cases hv
    obtain ⟨k1, k2, k3⟩ := vx_keep h0 e1 hS hA hf hL hF
    obtain ⟨t2, a1, b1⟩ := kk r u t T'.heap (locs ++ L) e1.symm (by rw [← e2]; exact X'.warmed.alike) hp hb k1 k2 k3 T' rfl X'
    exact ⟨t2, st t2 a1, b1⟩
  · obtain ⟨k1, k2, k3⟩ := vx_keep h0 e1 hS hAX hf hL hF
    obtain ⟨t2, a1, b1⟩ := kx E ce q u t T'.heap (locs ++ L) e1.symm (by rw [← e2]; exact X'.warmed.alike) hp hb k1 k2 k3 (by rw [e1]; exact hce) hcv hcl T' rfl X'
    exact ⟨t2, st.trans a1, b1⟩
theorem vx_callv {S SX : Type} {post : S → Prop} {px : SX → Prop} {B : S → State → Prop} {BX : String → SX → State → Prop} {AX : Nat → Prop} (hr : vx_Run p l e R s m args below meth c H locs cells slots mc ms (F0 m pc ls st0) rest (va_Qv post B A1 a) (vx_X px BX AX) free) (hS : va_S A0 H0 H locs) (hA : ∀ q, q < H.size → A1 q → A0 q) (hf : ∀ q, free q → A0 q) (hAX : ∀ q, q < H.size → AX q → A0 q)
    (kx : ∀ (E : String) (ce : Cell) (q9 : Addr) (u : SX) (t : State) (H1 : Heap) (locs1 : List Loc), t.heap = H1 → s.vm.Alike t.vm → px u → BX E u t → H.size ≤ H1.size → (∀ q : Nat, q < H.size → ¬ AX q → H1[q]? = H[q]?) → va_S A0 H0 H1 locs1 → H1[q9]? = some ce → ce.vm = .none → s.vm.findClass E = some ce.cls → vx_W p l e R s m args below meth c H1 locs1 (cells + mc) (slots + ms) Q (F0 m pc ls rest) q9)
    (kk : ∀ (u : S) (t : State) (H1 : Heap) (locs1 : List Loc), t.heap = H1 → s.vm.Alike t.vm → post u → B u t → H.size ≤ H1.size → (∀ q : Nat, q < H.size → ¬ A1 q → H1[q]? = H[q]?) → va_S A0 H0 H1 locs1 → W p l e R s m args below meth c H1 locs1 (cells + mc) (slots + ms) Q (F0 m (pc + 3) ls (rest))) : W p l e R s m args below meth c H locs cells slots Q (F0 m pc ls st0) := by
  intro T hT X
  rcases hr T hT X with ⟨v, st₀, t, T', L, h0, X', hL, e1, e2, ⟨⟨u, hv, hp, hb⟩, hF⟩, st⟩ | ⟨q, st₀, t, T', L, E, ce, h0, X', hL, e1, e2, ⟨u, hp, hb, hF⟩, hce, hcv, hcl, st⟩
  · cases hv
    obtain ⟨k1, k2, k3⟩ := vx_keep h0 e1 hS hA hf hL hF
    obtain ⟨t2, a1, b1⟩ := kk u t T'.heap (locs ++ L) e1.symm (by rw [← e2]; exact X'.warmed.alike) hp hb k1 k2 k3 T' rfl X'
    exact ⟨t2, st t2 a1, b1⟩
  · obtain ⟨k1, k2, k3⟩ := vx_keep h0 e1 hS hAX hf hL hF
    obtain ⟨t2, a1, b1⟩ := kx E ce q u t T'.heap (locs ++ L) e1.symm (by rw [← e2]; exact X'.warmed.alike) hp hb k1 k2 k3 (by rw [e1]; exact hce) hcv hcl T' rfl X'
    exact ⟨t2, st.trans a1, b1⟩
/-- caught by the row x of this method's table; the rows ahead don't take it -/
theorem vx_catch {own name : String} {E : String} {ce : Cell} {q : Addr} (hown : s.vm.findClass own = some m.cls) (pre : List ExceptionTableEntry) (x : ExceptionTableEntry) (suf : List ExceptionTableEntry) (hsplit : c.exceptionTable.toList = pre ++ x :: suf)
    (hpass : ∀ z ∈ pre, covers z pc = false ∨ (z.catchType ≠ 0 ∧ ∃ nm : String, (Cond.classLink own z.catchType nm).before args s = true ∧ va_Nc E nm s)) (hx : covers x pc = true) (h0 : x.catchType ≠ 0)
    (hlink : (Cond.classLink own x.catchType name).before args s = true) (hcast : (Cond.castable E name).before args s = true) (hcell : H[q]? = some ce) (hv : ce.vm = .none) (hcl : s.vm.findClass E = some ce.cls)
    (kk : W p l e R s m args below meth c H locs cells slots Q (F0 m x.handlerPc ls [.ref q])) : vx_W p l e R s m args below meth c H locs cells slots Q (F0 m pc ls rest) q := by
  intro T hT X
  have hpl : e.platform.magicAccessors = ({} : Platform).magicAccessors := by rw [X.admits.platform]
  obtain ⟨c3, c4, hc3, hc4, hasg⟩ := Cond.castable_spec hcast
  cases Option.some.inj (hc3.symm.trans hcl)
  obtain ⟨c5, hc5, hcl5⟩ := Cond.classLink_spec hown hlink e.platform hpl
  cases Option.some.inj (hc4.symm.trans hc5)
  obtain ⟨vm', X', st⟩ := X.thenCaughtThrough q (g := F0 m pc ls rest) rfl (Steps.refl _) (by rw [hT]; exact hcell) (by rw [hv]; rfl) (by obtain ⟨k9, h9, -⟩ := Vm.findClass_spec hcl; exact ⟨k9, h9⟩) pre x suf hsplit
    (fun z hz => by
      rcases hpass z hz with h | ⟨hz0, nm, hl1, hn1⟩
      · exact Or.inl h
      · obtain ⟨c6, hc6, hcl6⟩ := Cond.classLink_spec hown hl1 e.platform hpl
        obtain ⟨a8, b8, h1, h2, h3⟩ := hn1
        cases Option.some.inj (h1.symm.trans hcl)
        cases Option.some.inj (h2.symm.trans hc6)
        exact Or.inr ⟨hz0, _, hcl6, h3⟩) hx (Or.inr ⟨h0, c4, hcl5, hasg⟩)
  obtain ⟨t, a1, b1⟩ := kk (T.setVm vm') hT X'
  exact ⟨t, st.trans a1, b1⟩
end Rows
section Ends
variable {p : Program} {l : Launch} {e : Env} {R : Room} {s : State} {m : MethodId} {args : Array Value} {below : List Frame} {meth : Method} {c : Code} {H : Heap} {locs : List Loc} {cells slots : Nat} {Q : State → Prop}
variable {mc ms : Nat} {free : Addr → Prop} {A0 A1 : Nat → Prop} {H0 : Heap} {a : Array Value} {ls : Array Slot} {st0 rest : List Value}
variable {Qc : Array Value → State → Outcome → State → Prop} {XC : String → State → State → Prop}
/-- what a body that may throw owes at its end -/
def vx_MQ (below : List Frame) (Qc : Array Value → State → Outcome → State → Prop) (XC : String → State → State → Prop) (a : Array Value) (s : State) (mc ms : Nat) (free : Addr → Prop) : State → Prop := fun t =>
  ∃ o, t.status = .running ∧ Ended t below o ∧ vx_Q Qc XC mc ms free a s o t
theorem vx_ret {g : JFrame} {mc ms : Nat} (k : W p l e R s m args below meth c H locs cells slots (MQ below Qc args s mc ms free) g) : W p l e R s m args below meth c H locs cells slots (vx_MQ below Qc XC args s mc ms free) g := by
  intro T hT X
  obtain ⟨t, a1, o, b1, b2, b3, b4⟩ := k T hT X
  exact ⟨t, a1, o, b1, b2, Or.inl ⟨b3, b4⟩⟩
/-- not caught here: it goes on to the caller -/
theorem vx_widen {g : JFrame} {q : Addr} {k n : Nat} (h1 : cells ≤ k) (h2 : slots ≤ n) (kk : vx_W p l e R s m args below meth c H locs k n Q g q) : vx_W p l e R s m args below meth c H locs cells slots Q g q := fun T hT X => kk T hT (stand_widen X h1 h2)
theorem vx_out {pc : Nat} {E : String} {ce : Cell} {q : Addr} {mc ms : Nat} (hout : ∀ x ∈ c.exceptionTable.toList, covers x pc = false) (hlocks : meth.locks = false) (hcell : H[q]? = some ce) (hv : ce.vm = .none) (hcl : s.vm.findClass E = some ce.cls)
    (hx : ∀ t : State, t.heap = H → s.vm.Alike t.vm → XC E s t) (hf : ∀ z ∈ locs, free z.base) (hc : cells ≤ mc) (hs : slots ≤ ms) :
    vx_W p l e R s m args below meth c H locs cells slots (vx_MQ below Qc XC args s mc ms free) (F0 m pc ls rest) q := by
  intro T hT X
  obtain ⟨st1, hrun, hend, hW, hsm⟩ := X.leaveThrown q (g := F0 m pc ls rest) rfl rfl rfl hout hlocks
  have hcell9 : (T.setFrames (.throwing q :: below)).heap[q]? = some ce := by
    show T.heap[q]? = some ce
    rw [hT]; exact hcell
  exact ⟨_, st1, .threw q, hrun, hend, Or.inr ⟨q, rfl, E, ce, locs, hx _ hT hW.alike, hcell9, hv, hcl, hW, hsm.mono hc hs, hf⟩⟩
theorem vx_frame {U : State} {k n : Nat} (h : s.sameButNew ({ U with vm := s.vm } : State) locs k n) : s.heap.size ≤ U.heap.size ∧ ∀ q : Nat, q < s.heap.size → (∀ z ∈ locs, z.base ≠ q) → U.heap[q]? = s.heap[q]? := by
  obtain ⟨-, h2, -, -, -, h6⟩ := h
  refine ⟨h2, fun q hq hz => ?_⟩
  obtain ⟨c9, e1, e2, e3, e4⟩ := h6 q _ (Array.getElem?_eq_getElem hq)
  have hs : c9.slots = (s.heap[q]).slots := Array.ext_getElem? fun i => e4 i fun hm => hz _ hm rfl
  have h9 : c9 = s.heap[q] := by
    rw [hs] at e2
    exact e2
  have e5 : U.heap[q]? = some c9 := e1
  rw [e5, h9, Array.getElem?_eq_getElem hq]
/-- the words of a throw but the four that speak of the heap -/
def vx_no (w : Cond) : Bool := decide (w ≠ .isRef (.static Bundle.tN "UNASSIGNED_STACK" Bundle.steD)) && decide (w ≠ .isRef (.static Bundle.tN "SUPPRESSED_SENTINEL" Bundle.listD)) && decide (w ≠ .laysStatic Bundle.tN "UNASSIGNED_STACK" Bundle.steD) && decide (w ≠ .laysStatic Bundle.tN "SUPPRESSED_SENTINEL" Bundle.listD)
def vx_at0 (own : String) (ic : Nat) (X : String) (names : List String) : List Cond := (Bundle.ownAtoms0 own ic X names).filter vx_no
def vx_atS (own : String) (ic : Nat) (X : String) (names : List String) : List Cond := (Bundle.ownAtoms own ic X names).filter vx_no
/-- a word that the tables alone decide, or a good one -/
def vx_ot (w : Cond) : Bool := w.onTables || goodWord w
theorem vx_ot_at {args a' : Array Value} {s U : State} {w : Cond} (hW : s.WarmedH U.vm) (hvm : s.vm = U.vm) (hg : vx_ot w = true) (h : w.before args s = true) : w.before a' U = true := by
  simp only [vx_ot, Bool.or_eq_true] at hg
  rcases hg with hg | hg
  · exact va_tabs hg hvm h
  · exact word_at hW (good_of_word hg) h
/-- a list's words: the good ones out of the method's own list, the others by premises of their own -/
theorem vx_hat {args : Array Value} {s : State} {L B : List Cond} (h1 : ∀ w ∈ L.filter goodWord, w.before args s = true) (h2 : ∀ w ∈ L.filter (fun w => !goodWord w), w ∈ B) (h3 : ∀ w ∈ B, w.before args s = true) : ∀ w ∈ L, w.before args s = true := by
  intro w hw
  by_cases g : goodWord w = true
  · exact h1 w (List.mem_filter.mpr ⟨hw, g⟩)
  · refine h3 w (h2 w (List.mem_filter.mpr ⟨hw, ?_⟩))
    show (!goodWord w) = true
    cases hgw : goodWord w
    · rfl
    · exact absurd hgw g
theorem vx_c {args : Array Value} {s : State} {w : Cond} {B : List Cond} (h : w.before args s = true) (t : ∀ w ∈ B, w.before args s = true) : ∀ w' ∈ w :: B, w'.before args s = true := fun w' h' => (List.mem_cons.mp h').elim (fun e => by rw [e]; exact h) (t w')
theorem vx_n {args : Array Value} {s : State} : ∀ w ∈ ([] : List Cond), w.before args s = true := fun _ h => nomatch h
theorem vx_own {args : Array Value} {s : State} {L : List Cond} (h1 : ∀ w ∈ L.filter vx_no, w.before args s = true)
    (hU : (Cond.isRef (.static Bundle.tN "UNASSIGNED_STACK" Bundle.steD)).before args s = true) (hN : (Cond.isRef (.static Bundle.tN "SUPPRESSED_SENTINEL" Bundle.listD)).before args s = true)
    (lU : (Cond.laysStatic Bundle.tN "UNASSIGNED_STACK" Bundle.steD).before args s = true) (lN : (Cond.laysStatic Bundle.tN "SUPPRESSED_SENTINEL" Bundle.listD).before args s = true) : ∀ w ∈ L, w.before args s = true := by
  intro w hw
  by_cases e1 : w = .isRef (.static Bundle.tN "UNASSIGNED_STACK" Bundle.steD)
  · rw [e1]; exact hU
  · by_cases e2 : w = .isRef (.static Bundle.tN "SUPPRESSED_SENTINEL" Bundle.listD)
    · rw [e2]; exact hN
    · by_cases e3 : w = .laysStatic Bundle.tN "UNASSIGNED_STACK" Bundle.steD
      · rw [e3]; exact lU
      · by_cases e4 : w = .laysStatic Bundle.tN "SUPPRESSED_SENTINEL" Bundle.listD
        · rw [e4]; exact lN
        · exact h1 w (List.mem_filter.mpr ⟨hw, by unfold vx_no; rw [decide_eq_true e1, decide_eq_true e2, decide_eq_true e3, decide_eq_true e4]; rfl⟩)
/-- where a static field lies, its class's statics cell in H -/
def vx_L (C n d : String) (A : Nat → Prop) (U : State) (H : Heap) : Prop := ∃ (c : ClassId) (k : Class) (i : Nat) (f : Field) (a : Nat) (cell : Cell), U.vm.findClass C = some c ∧ U.fieldFound? C n d = some (c, k, i, f) ∧ f.isStatic = true ∧ k.statics = some a ∧ H[a]? = some cell ∧ cell.vm.isStatics = true ∧ cell.cls = c ∧ f.slot < cell.slots.size ∧ k.staticTypes[f.slot]? = some f.type ∧ ¬ A a
theorem vx_L.moved {C n d : String} {A : Nat → Prop} {u U : State} {H : Heap} (hvm : u.vm.Alike U.vm) (h : vx_L C n d A u H) : vx_L C n d A U H := by
  obtain ⟨c, k, i, f, a, cell, h1, h2, h3, h4, h5, h6, h7, h8, h9, h10⟩ := h
  obtain ⟨k', hi', he⟩ := State.fieldFound?_setVm hvm h2
  exact ⟨c, k', i, f, a, cell, by rw [hvm.findClass]; exact h1, hi', h3, by rw [he]; exact h4, h5, h6, h7, h8, by rw [he]; exact h9, h10⟩
theorem vx_L.kept {C n d : String} {A : Nat → Prop} {U : State} {H H1 : Heap} (h : vx_L C n d A U H) (hq : ∀ a : Nat, a < H.size → ¬ A a → H1[a]? = H[a]?) : vx_L C n d A U H1 := by
  obtain ⟨c, k, i, f, a, cell, h1, h2, h3, h4, h5, h6, h7, h8, h9, h10⟩ := h
  exact ⟨c, k, i, f, a, cell, h1, h2, h3, h4, by rw [hq a (Array.getElem?_eq_some_iff.mp h5).1 h10]; exact h5, h6, h7, h8, h9, h10⟩
theorem vx_L.narrow {C n d : String} {A B : Nat → Prop} {U : State} {H : Heap} (h : vx_L C n d A U H) (hAB : ∀ q, B q → A q) : vx_L C n d B U H := by
  obtain ⟨c, k, i, f, a, cell, h1, h2, h3, h4, h5, h6, h7, h8, h9, h10⟩ := h
  exact ⟨c, k, i, f, a, cell, h1, h2, h3, h4, h5, h6, h7, h8, h9, fun z => h10 (hAB _ z)⟩
theorem vx_L.word {C n d : String} {A : Nat → Prop} {s : State} {args : Array Value} (h : vx_L C n d A s s.heap) : (Cond.laysStatic C n d).before args s = true := by
  obtain ⟨c, k, i, f, a, cell, h1, h2, h3, h4, h5, h6, h7, h8, h9, -⟩ := h
  show (Cond.laysStatic C n d).holds args s none s [] = true
  exact Cond.laysStatic_of h1 h2 h3 h4 h5 h6 h7 h8 h9
/-- .. and what it holds: null or some reference -/
def vx_Zq (C n d : String) (A : Nat → Prop) (U : State) (H : Heap) : Prop := va_Zq C n d A U H ∧ vx_L C n d A U H
theorem vx_Zq.moved {C n d : String} {A : Nat → Prop} {u U : State} {H : Heap} (hvm : u.vm.Alike U.vm) (h : vx_Zq C n d A u H) : vx_Zq C n d A U H := ⟨va_Zq.moved hvm h.1, vx_L.moved hvm h.2⟩
theorem vx_Zq.kept {C n d : String} {A : Nat → Prop} {U : State} {H H1 : Heap} (h : vx_Zq C n d A U H) (hq : ∀ a : Nat, a < H.size → ¬ A a → H1[a]? = H[a]?) : vx_Zq C n d A U H1 := ⟨va_Zq.kept h.1 hq, vx_L.kept h.2 hq⟩
theorem vx_Zq.narrow {C n d : String} {A B : Nat → Prop} {U : State} {H : Heap} (h : vx_Zq C n d A U H) (hAB : ∀ q, B q → A q) : vx_Zq C n d B U H := ⟨va_Zq.narrow h.1 hAB, vx_L.narrow h.2 hAB⟩
theorem vx_Zqof {args : Array Value} {s : State} {C n d : String} {A : Nat → Prop} (hl : (Cond.laysStatic C n d).before args s = true) (hini : (Cond.initialized C).before args s = true) (h : (Cond.isRef (.static C n d)).before args s = true) (hA : ∀ a : Nat, a < s.heap.size → ¬ A a) : vx_Zq C n d A s s.heap := by
  refine ⟨va_Zqof hl hini h hA, ?_⟩
  obtain ⟨c, k, i, f, a, cell, h1, h2, h3, h4, h5, h6, h7, h8, h9⟩ := Cond.laysStatic_spec hl
  exact ⟨c, k, i, f, a, cell, h1, h2, h3, h4, h5, h6, h7, h8, h9, hA a (Array.getElem?_eq_some_iff.mp h5).1⟩
theorem vx_isRef {C n d : String} {v : Value} {A : Nat → Prop} {s : State} {args : Array Value} (h : va_Z C n d v A s s.heap) (hv : v.isRef = true) : (Cond.isRef (.static C n d)).before args s = true := by
  obtain ⟨cf, kf, fi, f, a, cell, h1, h2, h3, h4, h5, h6, h7, -⟩ := h
  have he : (Term.static C n d).eval args s none [] s = some v := by
    simp [Term.eval, State.fieldNamed?, h1, h2, h4, h5, h6, h7]
  simp only [Cond.before, Cond.holds, Cond.value, he]
  cases v <;> simp_all [Value.isRef]
theorem vx_isRefq {C n d : String} {A : Nat → Prop} {s : State} {args : Array Value} (h : va_Zq C n d A s s.heap) : (Cond.isRef (.static C n d)).before args s = true := by
  rcases h with h | ⟨t, h⟩
  · exact vx_isRef h rfl
  · exact vx_isRef h rfl
/-- the same frame, seen from here: as if the method were called anew in this heap -/
theorem vx_rebase {T : State} (X : Stand p l e R s m args below meth c T locs cells slots) {R' : Room} (hf : R'.frames ≤ R.frames) (hl : R'.locals ≤ R.locals) (hc : cells + R'.cells ≤ R.cells) (hs : slots + R'.slots ≤ R.slots) :
    Stand p l e R' ((T.setVm s.vm).setFrames (.invoking m args :: below)) m args below meth c T [] 0 0 := by
  have htop : (T.setVm s.vm).topJava?.isSome := X.here.top
  have hF : ((T.setVm s.vm).setFrames (.invoking m args :: below)).frames = .invoking m args :: below := State.frames_setFrames _ (State.cur_lt_of_top htop)
  obtain ⟨g₀, hg0⟩ := Option.isSome_iff_exists.mp htop
  obtain ⟨r, hr⟩ := State.topJava?_eq_some.mp hg0
  have hl9 : e.platform.stackLimits (T.setVm s.vm).me = e.platform.stackLimits s.me := X.limits
  have hb9 : (T.setVm s.vm).me.stackBytes = s.me.stackBytes := X.bytes
  refine ⟨X.admits, X.cas, X.clock, hF, ?_, X.hears, X.method, X.code, X.here, X.tail, X.warmed, ?_, ?_, ?_⟩
  · have h := X.room
    have hU : ((T.setVm s.vm).setFrames (.invoking m args :: below)).localsInUse = s.localsInUse := by
      rw [State.localsInUse_invoking hF (meth := meth) (c := c) X.method X.code, State.localsInUse_invoking X.frames X.method X.code]
    simp only [State.hasRoom, Bool.and_eq_true, decide_eq_true_eq] at h ⊢
    obtain ⟨⟨⟨⟨h1, h2, h3, h4, h5, h6⟩, h7⟩, h8⟩, h9⟩ := h
    rw [X.frames, List.length_cons] at h2 h3
    have q1 := X.heapSize
    have q2 := X.used
    simp only [hF, hU, List.length_cons, State.stackLimits_setFrames, State.stackBytes_setFrames, hl9, hb9]
    refine ⟨⟨⟨⟨by omega, by omega, by omega, by omega, by omega, h6⟩, ?_⟩, ?_⟩, X.book⟩
    · show T.heap.size + R'.cells ≤ e.platform.maxCells
      omega
    · show T.slotsUsed + R'.slots ≤ e.platform.maxSlots
      omega
  · rw [State.stackLimits_setFrames]; rfl
  · rw [State.stackBytes_setFrames]; rfl
  · refine ⟨?_, Nat.le_refl _, Nat.le_refl _, ?_, ?_, fun a c9 h9 => ⟨c9, h9, rfl, rfl, fun _ _ => rfl⟩⟩
    · obtain ⟨t, ht, -⟩ := State.frames_cons hr
      show T.setVm s.vm = { ((T.setVm s.vm).setFrames (.invoking m args :: below)).setFrames (T.setVm s.vm).frames with heap := T.heap, slotsUsed := T.slotsUsed }
      rw [State.setFrames_setFrames, State.setFrames_self ht]
      rfl
    · show T.slotsUsed = T.slotsUsed + ((T.heap.toList.drop T.heap.size).map (·.slots.size)).sum
      rw [List.drop_eq_nil_of_le (Nat.le_of_eq Array.length_toList)]
      rfl
    · show ((T.heap.toList.drop T.heap.size).map (·.slots.size)).sum ≤ 0
      rw [List.drop_eq_nil_of_le (Nat.le_of_eq Array.length_toList)]
      exact Nat.le_refl _
/-- 'throw new E()': new; dup; invokespecial; athrow -/
theorem vx_throw0 {cc : ByteArray} {pc : Nat} (hexec : p.tables.exec = Jvm.exec) (hb : c.code = cc) (hl : l.stackTraces = false) {own cls : String} {names : List String} {ik ic mc ms : Nat} {A : Nat → Prop}
    (hown : s.vm.findClass own = some m.cls) (hcls : Bundle.fit cls = true) (hnames : ∀ n ∈ names, Bundle.fit n = true)
    (hk : (Cond.classLink own ik cls).before args s = true) (hini : (Cond.initialized cls).before args s = true) (hat : ∀ w ∈ vx_at0 own ic cls names, w.before args s = true)
    (hgood : ∀ w ∈ Cond.classLink own ik cls :: Cond.initialized cls :: vx_at0 own ic cls names, vx_ot w = true)
    (hU : vx_Zq Bundle.tN "UNASSIGNED_STACK" Bundle.steD A s s.heap) (hN : vx_Zq Bundle.tN "SUPPRESSED_SENTINEL" Bundle.listD A s s.heap) (hS : va_S A s.heap H locs) (hsize : ls.size = c.maxLocals)
    (d0 : decode cc pc = .ok (.new ik, 3)) (d3 : decode cc (pc + 3) = .ok (.dup, 1)) (d4 : decode cc (pc + 4) = .ok (.invokespecial ic, 3)) (d7 : decode cc (pc + 7) = .ok (.athrow, 1))
    (hout : ∀ x ∈ c.exceptionTable.toList, covers x (pc + 7) = false)
    (hRframes : names.length + 3 < R.frames) (hRlocals : (rest.map fun v => v.category).sum + (13 * (names.length + 1) + 42) ≤ R.locals) (hRcells : cells + 1 ≤ R.cells) (hRslots : slots + 6 ≤ R.slots) (hlocks : meth.locks = false)
    (hx : ∀ t : State, s.vm.Alike t.vm → H.size ≤ t.heap.size → (∀ q : Nat, q < H.size → t.heap[q]? = H[q]?) → XC cls s t)
    (hf : ∀ z ∈ locs, free z.base) (hc : cells + 1 ≤ mc) (hs : slots + 6 ≤ ms) :
    W p l e R s m args below meth c H locs cells slots (vx_MQ below Qc XC args s mc ms free) (F0 m pc ls rest) := by
  intro T hT X
  have htr : e.platform.stackTraces = false := (show e.platform.stackTraces = l.stackTraces by rw [X.admits.platform]).trans hl
  have Y := vx_rebase X (R' := { frames := R.frames, locals := R.locals, cells := 1, slots := 6 }) (Nat.le_refl _) (Nat.le_refl _) hRcells hRslots
  obtain ⟨s', hA⟩ : ∃ z, z = (T.setVm s.vm).setFrames (.invoking m args :: below) := ⟨_, rfl⟩
  rw [← hA] at Y
  have hvm : s'.vm = s.vm := by rw [hA]; rfl
  have hhp : s'.heap = H := by rw [hA]; exact hT
  have hW0 : s.WarmedH s'.vm := by rw [hvm]; exact State.WarmedH.refl s
  have hat' : ∀ w ∈ vx_at0 own ic cls names, w.before args s' = true := fun w hw => vx_ot_at hW0 hvm.symm (hgood w (List.mem_cons_of_mem _ (List.mem_cons_of_mem _ hw))) (hat w hw)
  have hk' : (Cond.classLink own ik cls).before args s' = true := vx_ot_at hW0 hvm.symm (hgood _ List.mem_cons_self) hk
  have hini' : (Cond.initialized cls).before args s' = true := vx_ot_at hW0 hvm.symm (hgood _ (List.mem_cons_of_mem _ List.mem_cons_self)) hini
  have hU' : vx_Zq Bundle.tN "UNASSIGNED_STACK" Bundle.steD A s' s'.heap := by rw [hhp]; exact vx_Zq.moved hW0.alike (hU.kept hS.2.1)
  have hN' : vx_Zq Bundle.tN "SUPPRESSED_SENTINEL" Bundle.listD A s' s'.heap := by rw [hhp]; exact vx_Zq.moved hW0.alike (hN.kept hS.2.1)
  have h : ∀ w ∈ Bundle.ownAtoms0 own ic cls names, w.before args s' = true := vx_own hat' (vx_isRefq hU'.1) (vx_isRefq hN'.1) hU'.2.word hN'.2.word
  have hown' : s'.vm.findClass own = some m.cls := by rw [hvm]; exact hown
  have hins : (Cond.instantiable cls 6).before args s' = true := h _ (by simp [Bundle.ownAtoms0])
  obtain ⟨vm₁, cX, kX, hfX, hkX, -, -, X₁, st1⟩ := Y.newCold hexec (own := own) (C := cls) (index := ik) (n := 6) hown' hk' hins hini'
    (g := F0 m pc ls rest) rfl (by rw [hb]; exact d0) (Nat.le_refl _) (Nat.le_refl _)
  generalize hT1 : (T.setVm vm₁).pushCell { cls := cX, slots := kX.instanceTypes.map defaultValue, vm := .none } = T1 at X₁ st1
  have hcat : (Value.ref T.heap.size).category = 1 := rfl
  have hcellA : T1.heap[T.heap.size]? = some (freshCell cX kX) := by rw [← hT1]; exact State.heap_pushCell_size _ _
  have d3' : decode c.code (pc + 3) = .ok (.dup, 1) := by rw [hb]; exact d3
  obtain ⟨U, hsteps, hrun, hend, hW, hsame, ce, hce, hO⟩ := X₁.ctorThrow0 hexec htr (own := own) (cls := cls) (names := names) (ic := ic) hown' hcls hnames h (fun x hx => nomatch hx) hfX hkX hcellA (by rw [hhp, hT]; exact Nat.le_refl _)
    (g := { method := m, pc := pc + 4, locals := ls, stack := .ref T.heap.size :: .ref T.heap.size :: rest, locked := none }) rfl hsize rfl rfl (rest := rest) rfl
    (by rw [hb]; exact d4) (by rw [hb]; exact d7) hout hRframes (by simp only [List.map_cons, List.sum_cons, hcat]; omega) hlocks
  obtain ⟨f1, f2⟩ := vx_frame hsame
  rw [hhp] at f1 f2
  have hWs : s.WarmedH U.vm := State.WarmedH.trans hW0 hW
  have hcl : s.vm.findClass cls = some ce.cls := by
    have h9 := hO.cls
    rw [hvm] at h9
    exact h9
  have hall : s.sameButNew ({ U with vm := s.vm } : State) locs mc ms := by
    subst hA
    obtain ⟨e1, e2⟩ := hsame
    rw [State.setFrames_setFrames] at e1
    have h2 : (T.setVm s.vm).sameButNew ({ U with vm := s.vm } : State) [] (0 + 1) (0 + 6) := ⟨e1, e2⟩
    have h3 := X.same.trans h2
    rw [List.append_nil] at h3
    exact h3.mono hc hs
  refine ⟨U, ?_, .threw T.heap.size, hrun, hend, Or.inr ⟨T.heap.size, rfl, cls, ce, locs, hx U hWs.alike f1 (fun q hq => f2 q hq (fun z hz => nomatch hz)), hce, hO.vm, hcl, hWs, hall, hf⟩⟩
  refine st1 _ ?_
  show Steps p.tables e below (T1.setTop { method := m, pc := pc + 3, locals := ls, stack := .ref T.heap.size :: rest, locked := none }) _
  jvm_step X₁.here [X₁.here.top, hexec, d3', Value.category]
  exact hsteps
/-- 'throw new E("text")': new; dup; ldc; invokespecial; athrow -/
theorem vx_throwS {cc : ByteArray} {pc : Nat} (hexec : p.tables.exec = Jvm.exec) (hb : c.code = cc) (hl : l.stackTraces = false) {own cls text : String} {names : List String} {ik is ic mc ms sa : Nat} {A : Nat → Prop}
    (hown : s.vm.findClass own = some m.cls) (hcls : Bundle.fit cls = true) (hnames : ∀ n ∈ names, Bundle.fit n = true)
    (hk : (Cond.classLink own ik cls).before args s = true) (hini : (Cond.initialized cls).before args s = true) (hstr : vk_R own is text sa s) (hat : ∀ w ∈ vx_atS own ic cls names, w.before args s = true)
    (hgood : ∀ w ∈ Cond.classLink own ik cls :: Cond.initialized cls :: vx_atS own ic cls names, vx_ot w = true)
    (hU : vx_Zq Bundle.tN "UNASSIGNED_STACK" Bundle.steD A s s.heap) (hN : vx_Zq Bundle.tN "SUPPRESSED_SENTINEL" Bundle.listD A s s.heap) (hS : va_S A s.heap H locs) (hsize : ls.size = c.maxLocals)
    (d0 : decode cc pc = .ok (.new ik, 3)) (d3 : decode cc (pc + 3) = .ok (.dup, 1)) (d4 : decode cc (pc + 4) = .ok (.ldc is, 2)) (d6 : decode cc (pc + 6) = .ok (.invokespecial ic, 3)) (d9 : decode cc (pc + 9) = .ok (.athrow, 1))
    (hout : ∀ x ∈ c.exceptionTable.toList, covers x (pc + 9) = false)
    (hRframes : names.length + 3 < R.frames) (hRlocals : (rest.map fun v => v.category).sum + (13 * (names.length + 1) + 43) ≤ R.locals) (hRcells : cells + 1 ≤ R.cells) (hRslots : slots + 6 ≤ R.slots) (hlocks : meth.locks = false)
    (hx : ∀ t : State, s.vm.Alike t.vm → H.size ≤ t.heap.size → (∀ q : Nat, q < H.size → t.heap[q]? = H[q]?) → XC cls s t)
    (hf : ∀ z ∈ locs, free z.base) (hc : cells + 1 ≤ mc) (hs : slots + 6 ≤ ms) :
    W p l e R s m args below meth c H locs cells slots (vx_MQ below Qc XC args s mc ms free) (F0 m pc ls rest) := by
  intro T hT X
  have htr : e.platform.stackTraces = false := (show e.platform.stackTraces = l.stackTraces by rw [X.admits.platform]).trans hl
  have Y := vx_rebase X (R' := { frames := R.frames, locals := R.locals, cells := 1, slots := 6 }) (Nat.le_refl _) (Nat.le_refl _) hRcells hRslots
  obtain ⟨s', hA⟩ : ∃ z, z = (T.setVm s.vm).setFrames (.invoking m args :: below) := ⟨_, rfl⟩
  rw [← hA] at Y
  have hvm : s'.vm = s.vm := by rw [hA]; rfl
  have hhp : s'.heap = H := by rw [hA]; exact hT
  have hW0 : s.WarmedH s'.vm := by rw [hvm]; exact State.WarmedH.refl s
  have hat' : ∀ w ∈ vx_atS own ic cls names, w.before args s' = true := fun w hw => vx_ot_at hW0 hvm.symm (hgood w (List.mem_cons_of_mem _ (List.mem_cons_of_mem _ hw))) (hat w hw)
  have hk' : (Cond.classLink own ik cls).before args s' = true := vx_ot_at hW0 hvm.symm (hgood _ List.mem_cons_self) hk
  have hini' : (Cond.initialized cls).before args s' = true := vx_ot_at hW0 hvm.symm (hgood _ (List.mem_cons_of_mem _ List.mem_cons_self)) hini
  have hU' : vx_Zq Bundle.tN "UNASSIGNED_STACK" Bundle.steD A s' s'.heap := by rw [hhp]; exact vx_Zq.moved hW0.alike (hU.kept hS.2.1)
  have hN' : vx_Zq Bundle.tN "SUPPRESSED_SENTINEL" Bundle.listD A s' s'.heap := by rw [hhp]; exact vx_Zq.moved hW0.alike (hN.kept hS.2.1)
  have h : ∀ w ∈ Bundle.ownAtoms own ic cls names, w.before args s' = true := vx_own hat' (vx_isRefq hU'.1) (vx_isRefq hN'.1) hU'.2.word hN'.2.word
  have hown' : s'.vm.findClass own = some m.cls := by rw [hvm]; exact hown
  have hins : (Cond.instantiable cls 6).before args s' = true := h _ (by simp [Bundle.ownAtoms])
  obtain ⟨vm₁, cX, kX, hfX, hkX, -, -, X₁, st1⟩ := Y.newCold hexec (own := own) (C := cls) (index := ik) (n := 6) hown' hk' hins hini'
    (g := F0 m pc ls rest) rfl (by rw [hb]; exact d0) (Nat.le_refl _) (Nat.le_refl _)
  generalize hT1 : (T.setVm vm₁).pushCell { cls := cX, slots := kX.instanceTypes.map defaultValue, vm := .none } = T1 at X₁ st1
  have hcat : (Value.ref T.heap.size).category = 1 := rfl
  have hcellA : T1.heap[T.heap.size]? = some (freshCell cX kX) := by rw [← hT1]; exact State.heap_pushCell_size _ _
  have d3' : decode c.code (pc + 3) = .ok (.dup, 1) := by rw [hb]; exact d3
  have d4' : decode c.code (pc + 4) = .ok (.ldc is, 2) := by rw [hb]; exact d4
  have hstr' : vk_R own is text sa s' := vk_R.warm hW0 hstr
  obtain ⟨U, hsteps, hrun, hend, hW, hsame, ce, hce, hO⟩ := X₁.ctorThrowS hexec htr (own := own) (cls := cls) (names := names) (ic := ic) hown' hcls hnames h (fun x hx => nomatch hx) hfX hkX hcellA (by rw [hhp, hT]; exact Nat.le_refl _) (msg := .ref sa) rfl
    (g := { method := m, pc := pc + 6, locals := ls, stack := .ref sa :: .ref T.heap.size :: .ref T.heap.size :: rest, locked := none }) rfl hsize rfl rfl (rest := rest) rfl
    (by rw [hb]; exact d6) (by rw [hb]; exact d9) hout hRframes (by simp only [List.map_cons, List.sum_cons, hcat]; omega) hlocks
  obtain ⟨f1, f2⟩ := vx_frame hsame
  rw [hhp] at f1 f2
  have hWs : s.WarmedH U.vm := State.WarmedH.trans hW0 hW
  have hcl : s.vm.findClass cls = some ce.cls := by
    have h9 := hO.cls
    rw [hvm] at h9
    exact h9
  have hall : s.sameButNew ({ U with vm := s.vm } : State) locs mc ms := by
    subst hA
    obtain ⟨e1, e2⟩ := hsame
    rw [State.setFrames_setFrames] at e1
    have h2 : (T.setVm s.vm).sameButNew ({ U with vm := s.vm } : State) [] (0 + 1) (0 + 6) := ⟨e1, e2⟩
    have h3 := X.same.trans h2
    rw [List.append_nil] at h3
    exact h3.mono hc hs
  refine ⟨U, ?_, .threw T.heap.size, hrun, hend, Or.inr ⟨T.heap.size, rfl, cls, ce, locs, hx U hWs.alike f1 (fun q hq => f2 q hq (fun z hz => nomatch hz)), hce, hO.vm, hcl, hWs, hall, hf⟩⟩
  refine st1 _ ?_
  show Steps p.tables e below (T1.setTop { method := m, pc := pc + 3, locals := ls, stack := .ref T.heap.size :: rest, locked := none }) _
  jvm_step X₁.here [X₁.here.top, hexec, d3', Value.category]
  exact X₁.ldcString hexec (own := own) (text := text) (index := is) (a := sa) hown' hstr'.1 hstr'.2
    (g := { method := m, pc := pc + 4, locals := ls, stack := .ref T.heap.size :: .ref T.heap.size :: rest, locked := none }) rfl d4' _ hsteps
/-- 'throw new E("text")', the text by a wide index -/
theorem vx_throwSW {cc : ByteArray} {pc : Nat} (hexec : p.tables.exec = Jvm.exec) (hb : c.code = cc) (hl : l.stackTraces = false) {own cls text : String} {names : List String} {ik is ic mc ms sa : Nat} {A : Nat → Prop}
    (hown : s.vm.findClass own = some m.cls) (hcls : Bundle.fit cls = true) (hnames : ∀ n ∈ names, Bundle.fit n = true)
    (hk : (Cond.classLink own ik cls).before args s = true) (hini : (Cond.initialized cls).before args s = true) (hstr : vk_R own is text sa s) (hat : ∀ w ∈ vx_atS own ic cls names, w.before args s = true)
    (hgood : ∀ w ∈ Cond.classLink own ik cls :: Cond.initialized cls :: vx_atS own ic cls names, vx_ot w = true)
    (hU : vx_Zq Bundle.tN "UNASSIGNED_STACK" Bundle.steD A s s.heap) (hN : vx_Zq Bundle.tN "SUPPRESSED_SENTINEL" Bundle.listD A s s.heap) (hS : va_S A s.heap H locs) (hsize : ls.size = c.maxLocals)
    (d0 : decode cc pc = .ok (.new ik, 3)) (d3 : decode cc (pc + 3) = .ok (.dup, 1)) (d4 : decode cc (pc + 4) = .ok (.ldc_w is, 3)) (d7 : decode cc (pc + 7) = .ok (.invokespecial ic, 3)) (d10 : decode cc (pc + 10) = .ok (.athrow, 1))
    (hout : ∀ x ∈ c.exceptionTable.toList, covers x (pc + 10) = false)
    (hRframes : names.length + 3 < R.frames) (hRlocals : (rest.map fun v => v.category).sum + (13 * (names.length + 1) + 43) ≤ R.locals) (hRcells : cells + 1 ≤ R.cells) (hRslots : slots + 6 ≤ R.slots) (hlocks : meth.locks = false)
    (hx : ∀ t : State, s.vm.Alike t.vm → H.size ≤ t.heap.size → (∀ q : Nat, q < H.size → t.heap[q]? = H[q]?) → XC cls s t)
    (hf : ∀ z ∈ locs, free z.base) (hc : cells + 1 ≤ mc) (hs : slots + 6 ≤ ms) :
    W p l e R s m args below meth c H locs cells slots (vx_MQ below Qc XC args s mc ms free) (F0 m pc ls rest) := by
  intro T hT X
  have htr : e.platform.stackTraces = false := (show e.platform.stackTraces = l.stackTraces by rw [X.admits.platform]).trans hl
  have Y := vx_rebase X (R' := { frames := R.frames, locals := R.locals, cells := 1, slots := 6 }) (Nat.le_refl _) (Nat.le_refl _) hRcells hRslots
  obtain ⟨s', hA⟩ : ∃ z, z = (T.setVm s.vm).setFrames (.invoking m args :: below) := ⟨_, rfl⟩
  rw [← hA] at Y
  have hvm : s'.vm = s.vm := by rw [hA]; rfl
  have hhp : s'.heap = H := by rw [hA]; exact hT
  have hW0 : s.WarmedH s'.vm := by rw [hvm]; exact State.WarmedH.refl s
  have hat' : ∀ w ∈ vx_atS own ic cls names, w.before args s' = true := fun w hw => vx_ot_at hW0 hvm.symm (hgood w (List.mem_cons_of_mem _ (List.mem_cons_of_mem _ hw))) (hat w hw)
  have hk' : (Cond.classLink own ik cls).before args s' = true := vx_ot_at hW0 hvm.symm (hgood _ List.mem_cons_self) hk
  have hini' : (Cond.initialized cls).before args s' = true := vx_ot_at hW0 hvm.symm (hgood _ (List.mem_cons_of_mem _ List.mem_cons_self)) hini
  have hU' : vx_Zq Bundle.tN "UNASSIGNED_STACK" Bundle.steD A s' s'.heap := by rw [hhp]; exact vx_Zq.moved hW0.alike (hU.kept hS.2.1)
  have hN' : vx_Zq Bundle.tN "SUPPRESSED_SENTINEL" Bundle.listD A s' s'.heap := by rw [hhp]; exact vx_Zq.moved hW0.alike (hN.kept hS.2.1)
  have h : ∀ w ∈ Bundle.ownAtoms own ic cls names, w.before args s' = true := vx_own hat' (vx_isRefq hU'.1) (vx_isRefq hN'.1) hU'.2.word hN'.2.word
  have hown' : s'.vm.findClass own = some m.cls := by rw [hvm]; exact hown
  have hins : (Cond.instantiable cls 6).before args s' = true := h _ (by simp [Bundle.ownAtoms])
  obtain ⟨vm₁, cX, kX, hfX, hkX, -, -, X₁, st1⟩ := Y.newCold hexec (own := own) (C := cls) (index := ik) (n := 6) hown' hk' hins hini'
    (g := F0 m pc ls rest) rfl (by rw [hb]; exact d0) (Nat.le_refl _) (Nat.le_refl _)
  generalize hT1 : (T.setVm vm₁).pushCell { cls := cX, slots := kX.instanceTypes.map defaultValue, vm := .none } = T1 at X₁ st1
  have hcat : (Value.ref T.heap.size).category = 1 := rfl
  have hcellA : T1.heap[T.heap.size]? = some (freshCell cX kX) := by rw [← hT1]; exact State.heap_pushCell_size _ _
  have d3' : decode c.code (pc + 3) = .ok (.dup, 1) := by rw [hb]; exact d3
  have d4' : decode c.code (pc + 4) = .ok (.ldc_w is, 3) := by rw [hb]; exact d4
  have hstr' : vk_R own is text sa s' := vk_R.warm hW0 hstr
  obtain ⟨U, hsteps, hrun, hend, hW, hsame, ce, hce, hO⟩ := X₁.ctorThrowS hexec htr (own := own) (cls := cls) (names := names) (ic := ic) hown' hcls hnames h (fun x hx => nomatch hx) hfX hkX hcellA (by rw [hhp, hT]; exact Nat.le_refl _) (msg := .ref sa) rfl
    (g := { method := m, pc := pc + 7, locals := ls, stack := .ref sa :: .ref T.heap.size :: .ref T.heap.size :: rest, locked := none }) rfl hsize rfl rfl (rest := rest) rfl
    (by rw [hb]; exact d7) (by rw [hb]; exact d10) hout hRframes (by simp only [List.map_cons, List.sum_cons, hcat]; omega) hlocks
  obtain ⟨f1, f2⟩ := vx_frame hsame
  rw [hhp] at f1 f2
  have hWs : s.WarmedH U.vm := State.WarmedH.trans hW0 hW
  have hcl : s.vm.findClass cls = some ce.cls := by
    have h9 := hO.cls
    rw [hvm] at h9
    exact h9
  have hall : s.sameButNew ({ U with vm := s.vm } : State) locs mc ms := by
    subst hA
    obtain ⟨e1, e2⟩ := hsame
    rw [State.setFrames_setFrames] at e1
    have h2 : (T.setVm s.vm).sameButNew ({ U with vm := s.vm } : State) [] (0 + 1) (0 + 6) := ⟨e1, e2⟩
    have h3 := X.same.trans h2
    rw [List.append_nil] at h3
    exact h3.mono hc hs
  refine ⟨U, ?_, .threw T.heap.size, hrun, hend, Or.inr ⟨T.heap.size, rfl, cls, ce, locs, hx U hWs.alike f1 (fun q hq => f2 q hq (fun z hz => nomatch hz)), hce, hO.vm, hcl, hWs, hall, hf⟩⟩
  refine st1 _ ?_
  show Steps p.tables e below (T1.setTop { method := m, pc := pc + 3, locals := ls, stack := .ref T.heap.size :: rest, locked := none }) _
  jvm_step X₁.here [X₁.here.top, hexec, d3', Value.category]
  exact X₁.ldcStringW hexec (own := own) (text := text) (index := is) (a := sa) hown' hstr'.1 hstr'.2
    (g := { method := m, pc := pc + 4, locals := ls, stack := .ref T.heap.size :: .ref T.heap.size :: rest, locked := none }) rfl d4' _ hsteps
end Ends
section Bodies
variable {l : Launch}
theorem vx_ofW {y : MethodName} {ws ws' : List Cond} {rm : Room} {Pc : Array Value → State → Prop} {Qc : Array Value → State → Outcome → State → Prop} {XC : String → State → State → Prop} {mc ms : Nat} {free : Addr → Prop} {cc : ByteArray} {maxL : Nat} {ret : Option FieldType}
    (hy : plainName y.cls = true) (hw : ws = Cond.code y cc maxL ret :: ws')
    (body : ∀ p e s m args below meth c s₁, BodyLoose p l y (headSpec ws rm) cc maxL ret e s m args below meth c s₁ → c.maxLocals = maxL → (∀ x ∈ c.exceptionTable.toList, False) → Pc args s →
      W p l e (headSpec ws rm).room s m args below meth c s.heap [] 0 0 (vx_MQ below Qc XC args s mc ms free) (entryFrame m args maxL)) : vx_Met l y ws rm Pc Qc XC mc ms free := by
  refine MetFree.of_bodyS (code := cc) (maxLocals := maxL) (ret := ret) hy ?_ ?_
  · intro args s m h hn
    obtain ⟨meth, c, h1, h2, h3, h4, h5, h6, -, -⟩ := Cond.code_spec hn (atoms_spec (ws := ws) h _ (by rw [hw]; exact List.mem_cons_self))
    exact ⟨meth, c, h1, h2, h3, h4, h5, h6⟩
  · intro p e s m args below meth c s₁ B hml hP _
    have hh0 : s₁.heap = s.heap := by rw [B.state]; rfl
    have ht : ∀ x ∈ c.exceptionTable.toList, False := by
      obtain ⟨meth9, c9, h1, h2, -, -, -, -, h7, -⟩ := Cond.code_spec B.named (atoms_spec (ws := ws) B.pre _ (by rw [hw]; exact List.mem_cons_self))
      cases Option.some.inj (h1.symm.trans B.method)
      cases Option.some.inj (h2.symm.trans (Stand.of_body B).code)
      intro x hx
      rw [Array.isEmpty_iff.mp h7] at hx
      cases hx
    obtain ⟨t, a1, o, b1, b2, b3⟩ := body p e s m args below meth c s₁ B hml ht hP s₁ hh0 (Stand.of_body B)
    exact ⟨t, o, a1, b1, b2, b3⟩
/-- the table of a body with handlers -/
theorem vx_table {p : Program} {x y : MethodName} {S : Spec} {cc bytes : ByteArray} {maxL maxL' : Nat} {ret ret' : Option FieldType} {e : Env} {s s₁ : State} {m : MethodId} {args : Array Value} {below : List Frame} {meth : Method} {c : Code} {hh : List (Nat × Nat × Nat × Nat)}
    (B : BodyLoose p l y S cc maxL ret e s m args below meth c s₁) (h : (Cond.codeWith y bytes maxL' ret' hh).before args s = true) : c.exceptionTable.toList = tableOf hh := by
  obtain ⟨m9, meth9, c9, hn9, h1, h2, -, -, h6, -⟩ := Cond.codeWith_spec h
  cases Option.some.inj (hn9.symm.trans B.named)
  cases Option.some.inj (h1.symm.trans B.method)
  cases Option.some.inj (h2.symm.trans (Stand.of_body B).code)
  rw [← h6, table_eq]
end Bodies
end VXA
/-! ===== END ===== -/
/-! ===== BEGIN a static call of a method with an exception table ===== -/
section VXS
variable {p : Program} {l : Launch} {e : Env} {R : Room} {s : State} {m : MethodId} {args : Array Value} {below : List Frame} {meth : Method} {c : Code} {T : State} {H : Heap} {locs : List Loc} {cells slots : Nat}
abbrev vx_CSW (R : Room) (s : State) (args : Array Value) (own : String) (index : Nat) (y : MethodName) (bytes : ByteArray) (maxL : Nat) (ret : Option FieldType) (hh : List (Nat × Nat × Nat × Nat)) (ws : List Cond) (rm : Room) (mc ms n : Nat) : Prop :=
  (rm.cells = mc ∧ rm.slots = ms ∧ rm.frames + 1 ≤ R.frames ∧ 8 + (maxL + 11) + rm.locals ≤ R.locals ∧ (∀ w ∈ ws, ∀ (a' : Array Value) (U : State), s.WarmedH U.vm → w.before a' U = true) ∧ Cond.codeWith y bytes maxL ret hh ∈ ws) ∧
  (Cond.codeWith y bytes maxL ret hh).before args s = true ∧ (Cond.initialized y.cls).before args s = true ∧ (y.cls ≠ "java/lang/invoke/MethodHandle" ∧ y.cls ≠ "java/lang/invoke/VarHandle") ∧
  (∀ sig, parseMethodDescriptor y.desc = some sig → n = sig.parameters.length) ∧ (Cond.methodLink own index y).before args s = true ∧ (Cond.static y).before args s = true
theorem vx_cwSW {own : String} {index maxL mc ms : Nat} {y : MethodName} {bytes : ByteArray} {ret : Option FieldType} {hh : List (Nat × Nat × Nat × Nat)} {Ts ws ws' : List Cond} {rm : Room} (n : Nat) (ht : ∀ w ∈ Ts, w.before args s = true) (hT : GoodIn Ts (va_wsS own index y ws)) (hw : ws = Cond.codeWith y bytes maxL ret hh :: ws') (hrc : rm.cells = mc) (hrs : rm.slots = ms)
    (hd : y.cls ≠ "java/lang/invoke/MethodHandle" ∧ y.cls ≠ "java/lang/invoke/VarHandle" ∧ (parseMethodDescriptor y.desc).map (fun d => d.parameters.length) = some n) (hR : rm.frames + 1 ≤ R.frames ∧ 8 + (maxL + 11) + rm.locals ≤ R.locals) :
    vx_CSW R s args own index y bytes maxL ret hh ws rm mc ms n := by
  have ok : ∀ w ∈ va_wsS own index y ws, w.before args s = true := fun w h => ht w (hT w h).1
  have hG : GoodIn Ts ws := fun w h => hT w (by unfold va_wsS; exact List.mem_append_right _ h)
  have hc : Cond.codeWith y bytes maxL ret hh ∈ ws := by rw [hw]; exact List.mem_cons_self
  refine ⟨⟨hrc, hrs, hR.1, hR.2, pay_in ht hG, hc⟩, ht _ (hG _ hc).1, ok _ (by simp [va_wsS]), ⟨hd.1, hd.2.1⟩, fun sig h => ?_, ok _ (by simp [va_wsS]), ok _ (by simp [va_wsS])⟩
  have h2 := hd.2.2
  rw [h] at h2
  exact (Option.some.inj h2).symm
theorem vx_callSW (X : Stand p l e R s m args below meth c T locs cells slots) (hexec : p.tables.exec = Jvm.exec) {own : String} {index : Nat} {y : MethodName} {bytes : ByteArray} {maxL : Nat} {ret : Option FieldType} {hh : List (Nat × Nat × Nat × Nat)}
    (hown : s.vm.findClass own = some m.cls) (hlink : (Cond.methodLink own index y).before args s = true) (hstat : (Cond.static y).before args s = true) (hinit : (Cond.initialized y.cls).before args s = true)
    (hcode : (Cond.codeWith y bytes maxL ret hh).before args s = true) (hy : y.cls ≠ "java/lang/invoke/MethodHandle" ∧ y.cls ≠ "java/lang/invoke/VarHandle")
    {W9 : Nat} {Pre : Pt → Array Value → Prop} {Post : Pt → Array Value → Option Value → Pt → Prop} (hK : Back l R p e below s args y 3 W9 Pre Post)
    {g : JFrame} (hg : g.method = m) (hsize : g.locals.size = c.maxLocals) {argsL rest : List Value} (hlen : ∀ sig, parseMethodDescriptor y.desc = some sig → argsL.length = sig.parameters.length)
    (hstack : g.stack = argsL.reverse ++ rest) (hW : 2 * g.monitorRoom + (rest.map fun v => v.category).sum ≤ W9) (hdg : decode c.code g.pc = .ok (.invokestatic index, 3))
    (hpre : ∀ vm₁, s.WarmedH vm₁ → Pre ⟨T.setVm vm₁, locs, cells, slots⟩ argsL.toArray) :
    ∃ (v : Option Value) (vm₁ : Vm) (B : Pt), s.WarmedH vm₁ ∧ Stand p l e R s m args below meth c B.U B.locs B.cells B.slots ∧ Post ⟨T.setVm vm₁, locs, cells, slots⟩ argsL.toArray v B ∧
      ∀ target, Steps p.tables e below (B.U.setTop { g with pc := g.pc + 3, stack := v.toList ++ rest }) target → Steps p.tables e below (T.setTop g) target := by
  obtain ⟨mk, methM, cM, hnamed, hmethM, -, -, -, -, -, -, hsigM⟩ := Cond.codeWith_spec hcode
  have hstatic : methM.isStatic = true := Cond.static_spec hnamed hmethM hstat
  obtain ⟨kP, hkP, -⟩ := className_of_methodNamed hnamed
  have hinitP : kP.init = .initialized := Cond.initialized_spec (findClass_of_methodNamed hnamed) hkP hinit
  obtain ⟨vm₁, X₁, hstep₁⟩ := X.invokestatic hexec hown hlink hnamed hmethM hstatic hkP hinitP hy (g := g) hg (argsL := argsL) (rest := rest) (hlen _ hsigM) hstack hdg
  obtain ⟨v, B, X', hpost, hsteps⟩ := hK m meth c ⟨T.setVm vm₁, locs, cells, slots⟩ { g with stack := rest } (.invokestatic index) mk argsL.toArray X₁ hg hsize hdg hW (X₁.named hnamed) (hpre vm₁ X₁.warmed)
  exact ⟨v, vm₁, B, X₁.warmed, X', hpost, fun target h => hstep₁ _ fun acts => by rw [doInvoke_state]; exact hsteps.trans h⟩
theorem vx_runSW {y : MethodName} {bytes cc : ByteArray} {maxL nL mc ms n index : Nat} {ret : Option FieldType} {hh : List (Nat × Nat × Nat × Nat)} {ws : List Cond} {rm : Room} {Pc : Array Value → State → Prop} {Qc : Array Value → State → Outcome → State → Prop} {free : Addr → Prop} {Ts : List Cond} {own : String} {As rest : List Value} {g : JFrame}
    (S : CallFix p m c cc nL s args Ts own) (hM : Met l y ws rm Pc Qc mc ms free) (cw : vx_CSW R s args own index y bytes maxL ret hh ws rm mc ms n) (hp : PreS s H Pc As)
    (hg : g.method = m) (hn : As.length = n) (hsize : g.locals.size = nL) (hstack : g.stack = As.reverse ++ rest) (hW : 2 * g.monitorRoom + (rest.map fun v => v.category).sum ≤ 8) (hdg : decode cc g.pc = .ok (.invokestatic index, 3)) (hf : cells + mc ≤ R.cells ∧ slots + ms ≤ R.slots) :
    va_Run p l e R s m args below meth c H locs cells slots mc ms g rest (Qc As.toArray) (free) := by
  obtain ⟨⟨hrc, hrs, hfr, hlo, hws, hcw⟩, hcode, hini, hy, hlen, hl, hstt⟩ := cw
  have hK : Back l R p e below s args y 3 8 (PreOf R mc ms Pc) (PostOf Qc mc ms free) := va_backW (hh := hh) (bytes := bytes) (maxL := maxL) (ret := ret) hM hp.1 hrc hrs hfr hlo hws hcw (fun a' U hW => word_at hW (Or.inl (by first | rfl | simp [Cond.onTables, Cond.keeps, Cond.steady])) hini)
  obtain ⟨hx, hb, hml, ho, -⟩ := S
  intro T hT X
  obtain ⟨v, vm₁, ⟨U', l2, c2, s2⟩, hW₁, X', ⟨g', mk, t, L, e1, e2, hq, h1, hL, h2, h3⟩, st⟩ := vx_callSW X hx (hh := hh) (bytes := bytes) (maxL := maxL) (ret := ret) ho hl hstt hini hcode hy hK hg (hsize.trans hml.symm) (argsL := As) (rest := rest) (fun sig h => hn.trans (hlen sig h)) hstack hW (by rw [hb]; exact hdg)
    (fun vm₁ hW₁ => ⟨hf.1, hf.2, hp.2 (T.setVm vm₁) hT hW₁⟩)
  dsimp only [Pt.U, Pt.locs, Pt.cells, Pt.slots] at X' e1 e2 h1 h2 h3 st
  subst h1; subst h2; subst h3
  exact ⟨v, (T.setVm vm₁).calling g' mk As.toArray, t, U', L, hT, X', hL, e1, e2, hq, st⟩
/-- not caught here, past rows that name other classes: it goes on to the caller -/
theorem vx_outP {p : Program} {l : Launch} {e : Env} {R : Room} {s : State} {m : MethodId} {args : Array Value} {below : List Frame} {meth : Method} {c : Code} {H : Heap} {locs : List Loc} {cells slots : Nat} {free : Addr → Prop} {ls : Array Slot} {rest : List Value} {Qc : Array Value → State → Outcome → State → Prop} {XC : String → State → State → Prop}
    {pc : Nat} {own E : String} {ce : Cell} {q : Addr} {mc ms : Nat} (hown : s.vm.findClass own = some m.cls) (hlocks : meth.locks = false)
    (hpass : ∀ z ∈ c.exceptionTable.toList, covers z pc = false ∨ (z.catchType ≠ 0 ∧ ∃ nm : String, (Cond.classLink own z.catchType nm).before args s = true ∧ va_Nc E nm s)) (hcell : H[q]? = some ce) (hv : ce.vm = .none) (hcl : s.vm.findClass E = some ce.cls)
    (hx : ∀ t : State, t.heap = H → s.vm.Alike t.vm → XC E s t) (hf : ∀ z ∈ locs, free z.base) (hc : cells ≤ mc) (hs : slots ≤ ms) :
    vx_W p l e R s m args below meth c H locs cells slots (vx_MQ below Qc XC args s mc ms free) (F0 m pc ls rest) q := by
  intro T hT X
  have hpl : e.platform.magicAccessors = ({} : Platform).magicAccessors := by rw [X.admits.platform]
  obtain ⟨vm', hW', X', st⟩ := X.outThrough hlocks q (g := F0 m pc ls rest) rfl rfl rfl (cell := ce) (by rw [hT]; exact hcell) (by rw [hv]; rfl)
    (by obtain ⟨k9, h9, -⟩ := Vm.findClass_spec hcl; exact ⟨k9, h9⟩) (fun z hz => by
      rcases hpass z hz with h | ⟨hz0, nm, hl1, hn1⟩
      · exact Or.inl h
      · obtain ⟨c6, hc6, hcl6⟩ := Cond.classLink_spec hown hl1 e.platform hpl
        obtain ⟨a8, b8, h1, h2, h3⟩ := hn1
        cases Option.some.inj (h1.symm.trans hcl)
        cases Option.some.inj (h2.symm.trans hc6)
        exact Or.inr ⟨hz0, _, hcl6, h3⟩)
  obtain ⟨g₀, hfr⟩ := X'.frames_eq
  have hcell9 : ((T.setVm vm').setFrames (.throwing q :: below)).heap[q]? = some ce := by
    show T.heap[q]? = some ce
    rw [hT]; exact hcell
  have hend : Ended ((T.setVm vm').setFrames (.throwing q :: below)) below (.threw q) := State.frames_setFrames _ (State.cur_lt_of_frames hfr)
  refine ⟨(T.setVm vm').setFrames (.throwing q :: below), ?_, .threw q, X'.here.running, hend, Or.inr ⟨q, rfl, E, ce, locs, hx _ hT (X'.ends _).1.alike, hcell9, hv, hcl, (X'.ends _).1, (X'.ends _).2.mono hc hs, hf⟩⟩
  rw [X.pushThrowing_eq]
  exact st
/-- a thing of a world lies in the heap -/
theorem vx_lt {D : va_G} {cl : List vw_C} {ws : va_W} {H1 : Heap} (h : va_P D cl ws H1) {k : Nat} {q : Nat × va_E} (hk : ws[k]? = some q) : q.1 < H1.size := (h k q hk).lt
end VXS
/-! ===== END ===== -/
/-! ===== BEGIN methods with a table of their own: called by a name, returning or throwing ===== -/
section VXH
/-! vx_backW, vx_callVX, vx_callSX, vx_callVW, vx_runVW, vx_runVX, vx_runSX, vx_ofWH follow the same proofs as their sisters above (Free/Laws.lean, Shelf42/LK1.lean); vx_outP calls Shelf42/NT130.lean (outThrough). -/
section
variable {l : Launch} {R : Room} {p : Program} {e : Env} {below : List Frame} {s : State} {sargs : Array Value} {y : MethodName} {len W9 : Nat}
theorem vx_backW {ws : List Cond} {rm : Room} {Pc : Array Value → State → Prop} {Qc : Array Value → State → Outcome → State → Prop} {XC : String → State → State → Prop} {mc ms : Nat} {free : Addr → Prop} {bytes : ByteArray} {maxL : Nat} {ret : Option FieldType} {hh : List (Nat × Nat × Nat × Nat)}
    (hM : vx_Met l y ws rm Pc Qc XC mc ms free) (hblind : FrameBlind Pc) (hrc : rm.cells = mc) (hrs : rm.slots = ms)
    (hframes : rm.frames + 1 ≤ R.frames) (hlocals : W9 + (maxL + 11) + rm.locals ≤ R.locals)
    (hws : ∀ w ∈ ws, ∀ a' U, s.WarmedH U.vm → w.before a' U = true) (hcode : Cond.codeWith y bytes maxL ret hh ∈ ws) (hinit : ∀ a' U, s.WarmedH U.vm → (Cond.initialized y.cls).before a' U = true) :
    vx_Back l R p e below s sargs y len W9 (PreOf R mc ms Pc) (PostOf Qc mc ms free) (vx_Post XC mc ms free) := by
  intro m meth c A g ig mk a X hg hsize hdg hW hn hp
  have h1 : (headSpec ws rm).pre.before a A.U = true := atoms_intro fun w hw => hws w hw _ _ X.warmed
  have h2 : (Cond.codeWith y bytes maxL ret hh).before a A.U = true := hws _ hcode _ _ X.warmed
  have h3 : (Cond.initialized y.cls).before a A.U = true := hinit _ _ X.warmed
  have h4 : A.cells + (headSpec ws rm).room.cells ≤ R.cells := by rw [show (headSpec ws rm).room.cells = mc from hrc]; exact hp.1
  have h5 : A.slots + (headSpec ws rm).room.slots ≤ R.slots := by rw [show (headSpec ws rm).room.slots = ms from hrs]; exact hp.2.1
  have hPc : Pc a (A.U.calling g mk a) := hblind _ _ _ _ hp.2.2
  obtain ⟨U, Ls, c0, s0⟩ := A
  dsimp only [Pt.U, Pt.locs, Pt.cells, Pt.slots] at h1 h2 h3 h4 h5 X hn hPc ⊢
  obtain ⟨m9, methY, cY, hn9, hmY, hcY, -, hlY, -⟩ := Cond.codeWith_spec h2
  cases Option.some.inj (hn9.symm.trans hn)
  obtain ⟨kY, hkY, -⟩ := className_of_methodNamed hn
  have hinitY : kY.init = .initialized := Cond.initialized_spec (findClass_of_methodNamed hn) hkY h3
  have h : At U g.method c below := by rw [hg]; exact X.here
  have hlocals9 : W9 + (maxL + 11) + (headSpec ws rm).room.locals ≤ R.locals := hlocals
  have happ : (headSpec ws rm).appliesLoose y e.platform (U.calling g mk a) = true :=
    Spec.appliesLoose_calling (g := g) h hdg hn hkY hinitY
      (X.room_calling (g := g) (R' := (headSpec ws rm).room) hsize hmY hcY hframes (by rw [hlY]; omega) h4 h5) h1
  obtain ⟨mid, hmid⟩ := h.above
  have hfr : (U.setTop g).frames = (.java g :: mid) ++ below := by rw [State.frames_setTop' g h.top, hmid]; rfl
  obtain ⟨o, s₂, hsteps, -, hend, hq⟩ := Steps.callFree hM p X.admits X.cas X.clock (acts := []) hfr happ hPc trivial
  have hq' : vx_Q Qc XC mc ms free a (U.calling g mk a) o s₂ := hq
  rw [State.frames_setTop' g h.top] at hend
  obtain ⟨g₀, hg0⟩ := Option.isSome_iff_exists.mp h.top
  obtain ⟨r, hr⟩ := State.topJava?_eq_some.mp hg0
  have hr' : (({ U with heap := s₂.heap, slotsUsed := s₂.slotsUsed } : State).setVm s₂.vm).frames = .java g₀ :: r := hr
  rcases hq' with ⟨hqc, L, hfe, hL⟩ | ⟨q, rfl, E, ce, L, hx, hce, hcv, hcl, hW₂, hsm, hL⟩
  · obtain ⟨⟨v, rfl⟩, hW₂, e2, q2, q3, q4, q5, q6⟩ := id hfe
    have e3 : s₂ = ({ (U.calling g mk a).setFrames s₂.frames with heap := s₂.heap, slotsUsed := s₂.slotsUsed } : State).setVm s₂.vm := by
      have : s₂ = ({ s₂ with vm := (U.calling g mk a).vm } : State).setVm s₂.vm := rfl
      rw [e2] at this
      exact this
    obtain ⟨c₂, i₂, len₂, hc₂, hd₂, hf₂⟩ := hend
    have hW' : U.WarmedH s₂.vm := hW₂
    have hcc : c₂ = c := by
      have h1 : s₂.code? g.method = U.code? g.method := by
        rw [State.code?_eq, State.code?_eq, hW'.alike.method?]
      exact Option.some.inj (hc₂.symm.trans (h1.trans h.code))
    subst hcc
    have hlen : len₂ = len := by rw [hdg] at hd₂; cases hd₂; rfl
    subst hlen
    have hs₂ : s₂ = (({ U with heap := s₂.heap, slotsUsed := s₂.slotsUsed } : State).setVm s₂.vm).setTop { g with pc := g.pc + len₂, stack := v.toList ++ g.stack } := by
      refine e3.trans ?_
      rw [hf₂, State.calling_eq h.top, State.setFrames_setFrames, State.setTop_of_frames _ hr', hr]
      rfl
    have hsame : U.sameButNew ({ U with heap := s₂.heap, slotsUsed := s₂.slotsUsed } : State) L mc ms := by
      refine ⟨?_, q2, q3, q4, q5, q6⟩
      obtain ⟨t, ht, -⟩ := State.frames_cons hr
      show ({ U with heap := s₂.heap, slotsUsed := s₂.slotsUsed } : State) = { U.setFrames U.frames with heap := s₂.heap, slotsUsed := s₂.slotsUsed }
      rw [State.setFrames_self ht]
    subst hg
    refine Or.inl ⟨v, ⟨(({ U with heap := s₂.heap, slotsUsed := s₂.slotsUsed } : State).setVm s₂.vm), Ls ++ L, c0 + mc, s0 + ms⟩,
      ⟨X.admits, X.cas, X.clock, X.frames, X.room, X.hears, X.method, X.code, (X.here.setHeapUsed s₂.heap s₂.slotsUsed).setVm hW'.alike, X.tail, State.WarmedH.trans X.warmed hW', X.limits, X.bytes, X.same.trans (hsame.setVm s.vm)⟩,
      ⟨g, mk, s₂, L, rfl, rfl, hqc, rfl, hL, rfl, rfl⟩, ?_⟩
    show Steps p.tables e below _ ((({ U with heap := s₂.heap, slotsUsed := s₂.slotsUsed } : State).setVm s₂.vm).setTop { g with pc := g.pc + len₂, stack := v.toList ++ g.stack })
    rw [← hs₂]
    exact hsteps
  · obtain ⟨e2, q2, q3, q4, q5, q6⟩ := id hsm
    have e3 : s₂ = ({ (U.calling g mk a).setFrames s₂.frames with heap := s₂.heap, slotsUsed := s₂.slotsUsed } : State).setVm s₂.vm := by
      have : s₂ = ({ s₂ with vm := (U.calling g mk a).vm } : State).setVm s₂.vm := rfl
      rw [e2] at this
      exact this
    have hf₂ : s₂.frames = .throwing q :: .java g :: U.frames.tail := hend
    have hW' : U.WarmedH s₂.vm := hW₂
    have hs₂ : s₂ = ((({ U with heap := s₂.heap, slotsUsed := s₂.slotsUsed } : State).setVm s₂.vm).setTop g).pushFrame (.throwing q) := by
      refine e3.trans ?_
      rw [hf₂, State.calling_eq h.top, State.setFrames_setFrames, State.pushFrame, State.frames_setTop _ hr', State.setTop_of_frames _ hr', State.setFrames_setFrames, hr]
      rfl
    have hsame : U.sameButNew ({ U with heap := s₂.heap, slotsUsed := s₂.slotsUsed } : State) L mc ms := by
      refine ⟨?_, q2, q3, q4, q5, q6⟩
      obtain ⟨t, ht, -⟩ := State.frames_cons hr
      show ({ U with heap := s₂.heap, slotsUsed := s₂.slotsUsed } : State) = { U.setFrames U.frames with heap := s₂.heap, slotsUsed := s₂.slotsUsed }
      rw [State.setFrames_self ht]
    subst hg
    refine Or.inr ⟨q, ⟨(({ U with heap := s₂.heap, slotsUsed := s₂.slotsUsed } : State).setVm s₂.vm), Ls ++ L, c0 + mc, s0 + ms⟩,
      ⟨X.admits, X.cas, X.clock, X.frames, X.room, X.hears, X.method, X.code, (X.here.setHeapUsed s₂.heap s₂.slotsUsed).setVm hW'.alike, X.tail, State.WarmedH.trans X.warmed hW', X.limits, X.bytes, X.same.trans (hsame.setVm s.vm)⟩,
      ⟨g, mk, s₂, L, E, ce, rfl, rfl, hx, hce, hcv, hcl, rfl, hL, rfl, rfl⟩, ?_⟩
    show Steps p.tables e below _ (((({ U with heap := s₂.heap, slotsUsed := s₂.slotsUsed } : State).setVm s₂.vm).setTop g).pushFrame (.throwing q))
    rw [← hs₂]
    exact hsteps
end
variable {p : Program} {l : Launch} {e : Env} {R : Room} {s : State} {m : MethodId} {args : Array Value} {below : List Frame} {meth : Method} {c : Code} {T : State} {H : Heap} {locs : List Loc} {cells slots : Nat}
theorem vx_callVX (X : Stand p l e R s m args below meth c T locs cells slots) (hexec : p.tables.exec = Jvm.exec) {own C : String} {index : Nat} {y : MethodName} {bytes : ByteArray} {maxL : Nat} {ret : Option FieldType} {hh : List (Nat × Nat × Nat × Nat)}
    (hown : s.vm.findClass own = some m.cls) (hlink : (Cond.methodLink own index y).before args s = true) (hinst : (Cond.instanceMethod y).before args s = true) (hsel : (Cond.selects C y y).before args s = true)
    (hcode : (Cond.codeWith y bytes maxL ret hh).before args s = true) (hy : y.cls ≠ "java/lang/invoke/MethodHandle" ∧ y.cls ≠ "java/lang/invoke/VarHandle")
    {W9 : Nat} {Pre : Pt → Array Value → Prop} {Post : Pt → Array Value → Option Value → Pt → Prop} {PostX : Pt → Array Value → Addr → Pt → Prop} (hK : vx_Back l R p e below s args y 3 W9 Pre Post PostX)
    {b : Addr} {cellB : Cell} (hcell : T.heap[b]? = some cellB) (hobj : cellB.vm.isStatics = false) (hcls : s.vm.findClass C = some cellB.cls)
    {g : JFrame} (hg : g.method = m) (hsize : g.locals.size = c.maxLocals) {argsL rest : List Value} (hlen : ∀ sig, parseMethodDescriptor y.desc = some sig → argsL.length = sig.parameters.length)
    (hstack : g.stack = argsL.reverse ++ .ref b :: rest) (hW : 2 * g.monitorRoom + (rest.map fun v => v.category).sum ≤ W9) (hdg : decode c.code g.pc = .ok (.invokevirtual index, 3))
    (hpre : ∀ vm₁, s.WarmedH vm₁ → Pre ⟨T.setVm vm₁, locs, cells, slots⟩ (Value.ref b :: argsL).toArray) :
    (∃ (v : Option Value) (vm₁ : Vm) (B : Pt), s.WarmedH vm₁ ∧ Stand p l e R s m args below meth c B.U B.locs B.cells B.slots ∧ Post ⟨T.setVm vm₁, locs, cells, slots⟩ (Value.ref b :: argsL).toArray v B ∧
      ∀ target, Steps p.tables e below (B.U.setTop { g with pc := g.pc + 3, stack := v.toList ++ rest }) target → Steps p.tables e below (T.setTop g) target) ∨
    (∃ (q : Addr) (vm₁ : Vm) (B : Pt), s.WarmedH vm₁ ∧ Stand p l e R s m args below meth c B.U B.locs B.cells B.slots ∧ PostX ⟨T.setVm vm₁, locs, cells, slots⟩ (Value.ref b :: argsL).toArray q B ∧
      Steps p.tables e below (T.setTop g) ((B.U.setTop { g with stack := rest }).pushFrame (.throwing q))) := by
  obtain ⟨mk, methM, hnamed, hmethM, hstM, habM⟩ := Cond.instanceMethod_spec hinst
  obtain ⟨m8, methM', cM, hn8, hmethM', -, -, -, -, -, -, hsigM⟩ := Cond.codeWith_spec hcode
  cases Option.some.inj (hn8.symm.trans hnamed)
  cases hmethM.symm.trans hmethM'
  obtain ⟨c2, r2, m2, q1, q2, q3, q4, kP, hkP, hkPi⟩ := Cond.selects_spec hsel
  cases hcls.symm.trans q1
  cases (State.methodFound?_of_named hnamed hy).symm.trans q2
  cases hnamed.symm.trans q3
  have hselP : selectMethod e.platform s.vm cellB.cls mk = .method mk := by rw [Launch.admits_selectMethod X.admits]; exact q4
  obtain ⟨vm₁, X₁, hstep₁⟩ := X.invokevirtual hexec hown hlink hnamed hmethM hstM hkP hkPi hy (a := b) (cell := cellB) hcell
    (fun z h => by rw [h] at hobj; cases hobj) hselP hmethM habM hkP hkPi (g := g) hg (argsL := argsL) (rest := rest) (hlen _ hsigM) hstack hdg
  rcases hK m meth c ⟨T.setVm vm₁, locs, cells, slots⟩ { g with stack := rest } (.invokevirtual index) mk (Value.ref b :: argsL).toArray X₁ hg hsize hdg hW (X₁.named hnamed) (hpre vm₁ X₁.warmed) with ⟨v, B, X', hpost, hsteps⟩ | ⟨q, B, X', hpost, hsteps⟩
  · exact Or.inl ⟨v, vm₁, B, X₁.warmed, X', hpost, fun target h => hstep₁ _ fun acts => by rw [doInvoke_state]; exact hsteps.trans h⟩
  · exact Or.inr ⟨q, vm₁, B, X₁.warmed, X', hpost, hstep₁ _ fun acts => by rw [doInvoke_state]; exact hsteps⟩
theorem vx_callSX (X : Stand p l e R s m args below meth c T locs cells slots) (hexec : p.tables.exec = Jvm.exec) {own : String} {index : Nat} {y : MethodName} {bytes : ByteArray} {maxL : Nat} {ret : Option FieldType} {hh : List (Nat × Nat × Nat × Nat)}
    (hown : s.vm.findClass own = some m.cls) (hlink : (Cond.methodLink own index y).before args s = true) (hstat : (Cond.static y).before args s = true) (hinit : (Cond.initialized y.cls).before args s = true)
    (hcode : (Cond.codeWith y bytes maxL ret hh).before args s = true) (hy : y.cls ≠ "java/lang/invoke/MethodHandle" ∧ y.cls ≠ "java/lang/invoke/VarHandle")
    {W9 : Nat} {Pre : Pt → Array Value → Prop} {Post : Pt → Array Value → Option Value → Pt → Prop} {PostX : Pt → Array Value → Addr → Pt → Prop} (hK : vx_Back l R p e below s args y 3 W9 Pre Post PostX)
    {g : JFrame} (hg : g.method = m) (hsize : g.locals.size = c.maxLocals) {argsL rest : List Value} (hlen : ∀ sig, parseMethodDescriptor y.desc = some sig → argsL.length = sig.parameters.length)
    (hstack : g.stack = argsL.reverse ++ rest) (hW : 2 * g.monitorRoom + (rest.map fun v => v.category).sum ≤ W9) (hdg : decode c.code g.pc = .ok (.invokestatic index, 3))
    (hpre : ∀ vm₁, s.WarmedH vm₁ → Pre ⟨T.setVm vm₁, locs, cells, slots⟩ argsL.toArray) :
    (∃ (v : Option Value) (vm₁ : Vm) (B : Pt), s.WarmedH vm₁ ∧ Stand p l e R s m args below meth c B.U B.locs B.cells B.slots ∧ Post ⟨T.setVm vm₁, locs, cells, slots⟩ argsL.toArray v B ∧
      ∀ target, Steps p.tables e below (B.U.setTop { g with pc := g.pc + 3, stack := v.toList ++ rest }) target → Steps p.tables e below (T.setTop g) target) ∨
    (∃ (q : Addr) (vm₁ : Vm) (B : Pt), s.WarmedH vm₁ ∧ Stand p l e R s m args below meth c B.U B.locs B.cells B.slots ∧ PostX ⟨T.setVm vm₁, locs, cells, slots⟩ argsL.toArray q B ∧
      Steps p.tables e below (T.setTop g) ((B.U.setTop { g with stack := rest }).pushFrame (.throwing q))) := by
  obtain ⟨mk, methM, cM, hnamed, hmethM, -, -, -, -, -, -, hsigM⟩ := Cond.codeWith_spec hcode
  have hstatic : methM.isStatic = true := Cond.static_spec hnamed hmethM hstat
  obtain ⟨kP, hkP, -⟩ := className_of_methodNamed hnamed
  have hinitP : kP.init = .initialized := Cond.initialized_spec (findClass_of_methodNamed hnamed) hkP hinit
  obtain ⟨vm₁, X₁, hstep₁⟩ := X.invokestatic hexec hown hlink hnamed hmethM hstatic hkP hinitP hy (g := g) hg (argsL := argsL) (rest := rest) (hlen _ hsigM) hstack hdg
  rcases hK m meth c ⟨T.setVm vm₁, locs, cells, slots⟩ { g with stack := rest } (.invokestatic index) mk argsL.toArray X₁ hg hsize hdg hW (X₁.named hnamed) (hpre vm₁ X₁.warmed) with ⟨v, B, X', hpost, hsteps⟩ | ⟨q, B, X', hpost, hsteps⟩
  · exact Or.inl ⟨v, vm₁, B, X₁.warmed, X', hpost, fun target h => hstep₁ _ fun acts => by rw [doInvoke_state]; exact hsteps.trans h⟩
  · exact Or.inr ⟨q, vm₁, B, X₁.warmed, X', hpost, hstep₁ _ fun acts => by rw [doInvoke_state]; exact hsteps⟩
theorem vx_callVW (X : Stand p l e R s m args below meth c T locs cells slots) (hexec : p.tables.exec = Jvm.exec) {own C : String} {index : Nat} {y : MethodName} {bytes : ByteArray} {maxL : Nat} {ret : Option FieldType} {hh : List (Nat × Nat × Nat × Nat)}
    (hown : s.vm.findClass own = some m.cls) (hlink : (Cond.methodLink own index y).before args s = true) (hinst : (Cond.instanceMethod y).before args s = true) (hsel : (Cond.selects C y y).before args s = true)
    (hcode : (Cond.codeWith y bytes maxL ret hh).before args s = true) (hy : y.cls ≠ "java/lang/invoke/MethodHandle" ∧ y.cls ≠ "java/lang/invoke/VarHandle")
    {W9 : Nat} {Pre : Pt → Array Value → Prop} {Post : Pt → Array Value → Option Value → Pt → Prop} (hK : Back l R p e below s args y 3 W9 Pre Post)
    {b : Addr} {cellB : Cell} (hcell : T.heap[b]? = some cellB) (hobj : cellB.vm.isStatics = false) (hcls : s.vm.findClass C = some cellB.cls)
    {g : JFrame} (hg : g.method = m) (hsize : g.locals.size = c.maxLocals) {argsL rest : List Value} (hlen : ∀ sig, parseMethodDescriptor y.desc = some sig → argsL.length = sig.parameters.length)
    (hstack : g.stack = argsL.reverse ++ .ref b :: rest) (hW : 2 * g.monitorRoom + (rest.map fun v => v.category).sum ≤ W9) (hdg : decode c.code g.pc = .ok (.invokevirtual index, 3))
    (hpre : ∀ vm₁, s.WarmedH vm₁ → Pre ⟨T.setVm vm₁, locs, cells, slots⟩ (Value.ref b :: argsL).toArray) :
    ∃ (v : Option Value) (vm₁ : Vm) (B : Pt), s.WarmedH vm₁ ∧ Stand p l e R s m args below meth c B.U B.locs B.cells B.slots ∧ Post ⟨T.setVm vm₁, locs, cells, slots⟩ (Value.ref b :: argsL).toArray v B ∧
      ∀ target, Steps p.tables e below (B.U.setTop { g with pc := g.pc + 3, stack := v.toList ++ rest }) target → Steps p.tables e below (T.setTop g) target := by
  obtain ⟨mk, methM, hnamed, hmethM, hstM, habM⟩ := Cond.instanceMethod_spec hinst
  obtain ⟨m8, methM', cM, hn8, hmethM', -, -, -, -, -, -, hsigM⟩ := Cond.codeWith_spec hcode
  cases Option.some.inj (hn8.symm.trans hnamed)
  cases hmethM.symm.trans hmethM'
  obtain ⟨c2, r2, m2, q1, q2, q3, q4, kP, hkP, hkPi⟩ := Cond.selects_spec hsel
  cases hcls.symm.trans q1
  cases (State.methodFound?_of_named hnamed hy).symm.trans q2
  cases hnamed.symm.trans q3
  have hselP : selectMethod e.platform s.vm cellB.cls mk = .method mk := by rw [Launch.admits_selectMethod X.admits]; exact q4
  obtain ⟨vm₁, X₁, hstep₁⟩ := X.invokevirtual hexec hown hlink hnamed hmethM hstM hkP hkPi hy (a := b) (cell := cellB) hcell
    (fun z h => by rw [h] at hobj; cases hobj) hselP hmethM habM hkP hkPi (g := g) hg (argsL := argsL) (rest := rest) (hlen _ hsigM) hstack hdg
  obtain ⟨v, B, X', hpost, hsteps⟩ := hK m meth c ⟨T.setVm vm₁, locs, cells, slots⟩ { g with stack := rest } (.invokevirtual index) mk (Value.ref b :: argsL).toArray X₁ hg hsize hdg hW (X₁.named hnamed) (hpre vm₁ X₁.warmed)
  exact ⟨v, vm₁, B, X₁.warmed, X', hpost, fun target h => hstep₁ _ fun acts => by rw [doInvoke_state]; exact hsteps.trans h⟩
abbrev vx_CVW (R : Room) (s : State) (args : Array Value) (own C : String) (index : Nat) (y : MethodName) (bytes : ByteArray) (maxL : Nat) (ret : Option FieldType) (hh : List (Nat × Nat × Nat × Nat)) (ws : List Cond) (rm : Room) (mc ms n : Nat) : Prop :=
  (rm.cells = mc ∧ rm.slots = ms ∧ rm.frames + 1 ≤ R.frames ∧ 8 + (maxL + 11) + rm.locals ≤ R.locals ∧ (∀ w ∈ ws, ∀ (a' : Array Value) (U : State), s.WarmedH U.vm → w.before a' U = true) ∧ Cond.codeWith y bytes maxL ret hh ∈ ws) ∧
  (Cond.codeWith y bytes maxL ret hh).before args s = true ∧ (Cond.initialized y.cls).before args s = true ∧ (y.cls ≠ "java/lang/invoke/MethodHandle" ∧ y.cls ≠ "java/lang/invoke/VarHandle") ∧
  (∀ sig, parseMethodDescriptor y.desc = some sig → n = sig.parameters.length) ∧ (Cond.methodLink own index y).before args s = true ∧ (Cond.instanceMethod y).before args s = true ∧ (Cond.selects C y y).before args s = true
theorem vx_cwVW {own C : String} {index maxL mc ms : Nat} {y : MethodName} {bytes : ByteArray} {ret : Option FieldType} {hh : List (Nat × Nat × Nat × Nat)} {Ts ws ws' : List Cond} {rm : Room} (n : Nat) (ht : ∀ w ∈ Ts, w.before args s = true) (hT : GoodIn Ts (wsV own index C y ws)) (hw : ws = Cond.codeWith y bytes maxL ret hh :: ws') (hrc : rm.cells = mc) (hrs : rm.slots = ms)
    (hd : y.cls = C ∧ y.cls ≠ "java/lang/invoke/MethodHandle" ∧ y.cls ≠ "java/lang/invoke/VarHandle" ∧ (parseMethodDescriptor y.desc).map (fun d => d.parameters.length) = some n) (hR : rm.frames + 1 ≤ R.frames ∧ 8 + (maxL + 11) + rm.locals ≤ R.locals) :
    vx_CVW R s args own C index y bytes maxL ret hh ws rm mc ms n := by
  obtain ⟨hC, hd⟩ := hd
  subst hC
  have ok : ∀ w ∈ wsV own index y.cls y ws, w.before args s = true := fun w h => ht w (hT w h).1
  have hG : GoodIn Ts ws := fun w h => hT w (by unfold wsV; exact List.mem_append_right _ h)
  have hc : Cond.codeWith y bytes maxL ret hh ∈ ws := by rw [hw]; exact List.mem_cons_self
  refine ⟨⟨hrc, hrs, hR.1, hR.2, pay_in ht hG, hc⟩, ht _ (hG _ hc).1, ok _ (by simp [wsV]), ⟨hd.1, hd.2.1⟩, fun sig h => ?_, ok _ (by simp [wsV]), ok _ (by simp [wsV]), ok _ (by simp [wsV])⟩
  have h2 := hd.2.2
  rw [h] at h2
  exact (Option.some.inj h2).symm
theorem vx_runVW {y : MethodName} {bytes cc : ByteArray} {maxL nL mc ms n index : Nat} {ret : Option FieldType} {hh : List (Nat × Nat × Nat × Nat)} {ws : List Cond} {rm : Room} {Pc : Array Value → State → Prop} {Qc : Array Value → State → Outcome → State → Prop} {free : Addr → Prop} {Ts : List Cond} {own C : String} {b : Addr} {As rest : List Value} {g : JFrame}
    (S : CallFix p m c cc nL s args Ts own) (hM : Met l y ws rm Pc Qc mc ms free) (cw : vx_CVW R s args own C index y bytes maxL ret hh ws rm mc ms n) (hp : PreV s H C b Pc As)
    (hg : g.method = m) (hn : As.length = n) (hsize : g.locals.size = nL) (hstack : g.stack = As.reverse ++ .ref b :: rest) (hW : 2 * g.monitorRoom + (rest.map fun v => v.category).sum ≤ 8) (hdg : decode cc g.pc = .ok (.invokevirtual index, 3)) (hf : cells + mc ≤ R.cells ∧ slots + ms ≤ R.slots) :
    va_Run p l e R s m args below meth c H locs cells slots mc ms g rest (Qc (Value.ref b :: As).toArray) free := by
  obtain ⟨⟨hrc, hrs, hfr, hlo, hws, hcw⟩, hcode, hini, hy, hlen, hl, hin, hse⟩ := cw
  have hK : Back l R p e below s args y 3 8 (PreOf R mc ms Pc) (PostOf Qc mc ms free) := va_backW (hh := hh) (bytes := bytes) (maxL := maxL) (ret := ret) hM hp.1 hrc hrs hfr hlo hws hcw (fun a' U hW => word_at hW (Or.inl (by first | rfl | simp [Cond.onTables, Cond.keeps, Cond.steady])) hini)
  obtain ⟨hx, hb, hml, ho, -⟩ := S
  obtain ⟨-, ⟨cellB, hcB, hoB, hclB⟩, hPc⟩ := hp
  intro T hT X
  obtain ⟨v, vm₁, ⟨U', l2, c2, s2⟩, hW₁, X', ⟨g', mk, t, L, e1, e2, hq, h1, hL, h2, h3⟩, st⟩ := vx_callVW X hx (C := C) (hh := hh) (bytes := bytes) (maxL := maxL) (ret := ret) ho hl hin hse hcode hy hK (by rw [hT]; exact hcB) hoB hclB hg (hsize.trans hml.symm) (argsL := As) (rest := rest) (fun sig h => hn.trans (hlen sig h)) hstack hW (by rw [hb]; exact hdg)
    (fun vm₁ hW₁ => ⟨hf.1, hf.2, hPc (T.setVm vm₁) hT hW₁⟩)
  dsimp only [Pt.U, Pt.locs, Pt.cells, Pt.slots] at X' e1 e2 h1 h2 h3 st
  subst h1; subst h2; subst h3
  exact ⟨v, (T.setVm vm₁).calling g' mk (Value.ref b :: As).toArray, t, U', L, hT, X', hL, e1, e2, hq, st⟩
section
variable {y : MethodName} {bytes cc : ByteArray} {maxL nL mc ms n index : Nat} {ret : Option FieldType} {ws : List Cond} {rm : Room} {Pc : Array Value → State → Prop} {Qc : Array Value → State → Outcome → State → Prop} {XC : String → State → State → Prop} {free : Addr → Prop} {Ts : List Cond} {own C : String} {b : Addr} {As rest : List Value} {g : JFrame}
theorem vx_runVX {hh : List (Nat × Nat × Nat × Nat)} (S : CallFix p m c cc nL s args Ts own) (hM : vx_Met l y ws rm Pc Qc XC mc ms free) (cw : vx_CVW R s args own C index y bytes maxL ret hh ws rm mc ms n) (hp : PreV s H C b Pc As)
    (hg : g.method = m) (hn : As.length = n) (hsize : g.locals.size = nL) (hstack : g.stack = As.reverse ++ .ref b :: rest) (hW : 2 * g.monitorRoom + (rest.map fun v => v.category).sum ≤ 8) (hdg : decode cc g.pc = .ok (.invokevirtual index, 3)) (hf : cells + mc ≤ R.cells ∧ slots + ms ≤ R.slots) :
    vx_Run p l e R s m args below meth c H locs cells slots mc ms g rest (Qc (Value.ref b :: As).toArray) XC free := by
  obtain ⟨⟨hrc, hrs, hfr, hlo, hws, hcw⟩, hcode, hini, hy, hlen, hl, hin, hse⟩ := cw
  have hK : vx_Back l R p e below s args y 3 8 (PreOf R mc ms Pc) (PostOf Qc mc ms free) (vx_Post XC mc ms free) := vx_backW (hh := hh) (bytes := bytes) (maxL := maxL) (ret := ret) hM hp.1 hrc hrs hfr hlo hws hcw (fun a' U hW => word_at hW (Or.inl (by first | rfl | simp [Cond.onTables, Cond.keeps, Cond.steady])) hini)
  obtain ⟨hx, hb, hml, ho, -⟩ := S
  obtain ⟨-, ⟨cellB, hcB, hoB, hclB⟩, hPc⟩ := hp
  intro T hT X
  rcases vx_callVX X hx (C := C) (hh := hh) (bytes := bytes) (maxL := maxL) (ret := ret) ho hl hin hse hcode hy hK (by rw [hT]; exact hcB) hoB hclB hg (hsize.trans hml.symm) (argsL := As) (rest := rest) (fun sig h => hn.trans (hlen sig h)) hstack hW (by rw [hb]; exact hdg)
    (fun vm₁ hW₁ => ⟨hf.1, hf.2, hPc (T.setVm vm₁) hT hW₁⟩) with ⟨v, vm₁, ⟨U', l2, c2, s2⟩, hW₁, X', ⟨g', mk, t, L, e1, e2, hq, h1, hL, h2, h3⟩, st⟩ | ⟨q, vm₁, ⟨U', l2, c2, s2⟩, hW₁, X', ⟨g', mk, t, L, E, ce, e1, e2, hq, hce, hcv, hcl, h1, hL, h2, h3⟩, st⟩
  · dsimp only [Pt.U, Pt.locs, Pt.cells, Pt.slots] at X' e1 e2 h1 h2 h3 st
    subst h1; subst h2; subst h3
    exact Or.inl ⟨v, (T.setVm vm₁).calling g' mk (Value.ref b :: As).toArray, t, U', L, hT, X', hL, e1, e2, hq, st⟩
  · dsimp only [Pt.U, Pt.locs, Pt.cells, Pt.slots] at X' e1 e2 h1 h2 h3 st hcl
    subst h1; subst h2; subst h3
    exact Or.inr ⟨q, (T.setVm vm₁).calling g' mk (Value.ref b :: As).toArray, t, U', L, E, ce, hT, X', hL, e1, e2, hq, hce, hcv, vx_cls hW₁ hcl, st⟩
theorem vx_runSX {hh : List (Nat × Nat × Nat × Nat)} (S : CallFix p m c cc nL s args Ts own) (hM : vx_Met l y ws rm Pc Qc XC mc ms free) (cw : vx_CSW R s args own index y bytes maxL ret hh ws rm mc ms n) (hp : PreS s H Pc As)
    (hg : g.method = m) (hn : As.length = n) (hsize : g.locals.size = nL) (hstack : g.stack = As.reverse ++ rest) (hW : 2 * g.monitorRoom + (rest.map fun v => v.category).sum ≤ 8) (hdg : decode cc g.pc = .ok (.invokestatic index, 3)) (hf : cells + mc ≤ R.cells ∧ slots + ms ≤ R.slots) :
    vx_Run p l e R s m args below meth c H locs cells slots mc ms g rest (Qc As.toArray) XC free := by
  obtain ⟨⟨hrc, hrs, hfr, hlo, hws, hcw⟩, hcode, hini, hy, hlen, hl, hstt⟩ := cw
  have hK : vx_Back l R p e below s args y 3 8 (PreOf R mc ms Pc) (PostOf Qc mc ms free) (vx_Post XC mc ms free) := vx_backW (hh := hh) (bytes := bytes) (maxL := maxL) (ret := ret) hM hp.1 hrc hrs hfr hlo hws hcw (fun a' U hW => word_at hW (Or.inl (by first | rfl | simp [Cond.onTables, Cond.keeps, Cond.steady])) hini)
  obtain ⟨hx, hb, hml, ho, -⟩ := S
  intro T hT X
  rcases vx_callSX X hx (hh := hh) (bytes := bytes) (maxL := maxL) (ret := ret) ho hl hstt hini hcode hy hK hg (hsize.trans hml.symm) (argsL := As) (rest := rest) (fun sig h => hn.trans (hlen sig h)) hstack hW (by rw [hb]; exact hdg)
    (fun vm₁ hW₁ => ⟨hf.1, hf.2, hp.2 (T.setVm vm₁) hT hW₁⟩) with ⟨v, vm₁, ⟨U', l2, c2, s2⟩, hW₁, X', ⟨g', mk, t, L, e1, e2, hq, h1, hL, h2, h3⟩, st⟩ | ⟨q, vm₁, ⟨U', l2, c2, s2⟩, hW₁, X', ⟨g', mk, t, L, E, ce, e1, e2, hq, hce, hcv, hcl, h1, hL, h2, h3⟩, st⟩
  · dsimp only [Pt.U, Pt.locs, Pt.cells, Pt.slots] at X' e1 e2 h1 h2 h3 st
    subst h1; subst h2; subst h3
    exact Or.inl ⟨v, (T.setVm vm₁).calling g' mk As.toArray, t, U', L, hT, X', hL, e1, e2, hq, st⟩
  · dsimp only [Pt.U, Pt.locs, Pt.cells, Pt.slots] at X' e1 e2 h1 h2 h3 st hcl
    subst h1; subst h2; subst h3
    exact Or.inr ⟨q, (T.setVm vm₁).calling g' mk As.toArray, t, U', L, E, ce, hT, X', hL, e1, e2, hq, hce, hcv, vx_cls hW₁ hcl, st⟩
end
end VXH
theorem vx_ofWH {l : Launch} {y : MethodName} {ws ws' : List Cond} {rm : Room} {Pc : Array Value → State → Prop} {Qc : Array Value → State → Outcome → State → Prop} {XC : String → State → State → Prop} {mc ms : Nat} {free : Addr → Prop} {cc : ByteArray} {maxL : Nat} {ret : Option FieldType} {hh : List (Nat × Nat × Nat × Nat)}
    (hy : plainName y.cls = true) (hw : ws = Cond.codeWith y cc maxL ret hh :: ws')
    (body : ∀ p e s m args below meth c s₁, BodyLoose p l y (headSpec ws rm) cc maxL ret e s m args below meth c s₁ → c.maxLocals = maxL → Pc args s →
      W p l e (headSpec ws rm).room s m args below meth c s.heap [] 0 0 (vx_MQ below Qc XC args s mc ms free) (entryFrame m args maxL)) : vx_Met l y ws rm Pc Qc XC mc ms free := by
  refine MetFree.of_bodyS (code := cc) (maxLocals := maxL) (ret := ret) hy ?_ ?_
  · intro args s m h hn
    obtain ⟨m9, meth, c, hn9, h1, h2, h3, h4, -, h5, h6, -⟩ := Cond.codeWith_spec (atoms_spec (ws := ws) h _ (by rw [hw]; exact List.mem_cons_self))
    cases hn.symm.trans hn9
    exact ⟨meth, c, h1, h2, h3, h4, h5, h6⟩
  · intro p e s m args below meth c s₁ B hml hP _
    have hh0 : s₁.heap = s.heap := by rw [B.state]; rfl
    obtain ⟨t, a1, o, b1, b2, b3⟩ := body p e s m args below meth c s₁ B hml hP s₁ hh0 (Stand.of_body B)
    exact ⟨t, o, a1, b1, b2, b3⟩
/-! ===== END ===== -/
end
section
/-! ===== BEGIN printed: names, fields, word lists, decode rows ===== -/
def RX0 : String := "ParrotLog$Log"
def TX0 : u_T := fun k => match k with
  | 0 => ("ParrotLog$Log", "offsets", "[I", true)
  | 1 => ("ParrotLog$Log", "keys", "[I", true)
  | 2 => ("ParrotLog$Log", "values", "[I", true)
  | 3 => ("ParrotLog$Log", "stormNumbers", "[I", true)
  | 4 => ("ParrotLog$Log", "marked", "[Z", true)
  | 5 => ("ParrotLog$Log", "size", "I", false)
  | 6 => ("ParrotLog$Log", "next", "I", false)
  | _ => ("ParrotLog$Log", "droppedInAll", "I", false)
def tyX0 : Nat → FieldType := fun k => match k with
  | 0 => .array .int
  | 1 => .array .int
  | 2 => .array .int
  | 3 => .array .int
  | 4 => .array .boolean
  | 5 => .int
  | 6 => .int
  | _ => .int
abbrev wsX00 : List Cond := u_ws RX0 TX0 8
theorem nmX0 : ∀ a, a < 8 → ∀ b, b < 8 → a ≠ b → (TX0 a).2.1 ≠ (TX0 b).2.1 := by decide +kernel
theorem tyX0_ok : ∀ k, k < 8 → parseFieldDescriptor (TX0 k).2.2.1 = some (tyX0 k) := by decide +kernel
abbrev cX0_init : ByteArray := prog_2_method_1_code
def yX0_init : MethodName := ⟨RX0, "<init>", "()V"⟩
abbrev cX0_append : ByteArray := prog_2_method_2_code
def yX0_append : MethodName := ⟨RX0, "append", "(III)I"⟩
abbrev cX0_markFirst : ByteArray := prog_2_method_3_code
def yX0_markFirst : MethodName := ⟨RX0, "markFirst", "()V"⟩
abbrev cX0_markAhead : ByteArray := prog_2_method_4_code
def yX0_markAhead : MethodName := ⟨RX0, "markAhead", "(I)V"⟩
abbrev cX0_markCompacted : ByteArray := prog_2_method_5_code
def yX0_markCompacted : MethodName := ⟨RX0, "markCompacted", "(I)V"⟩
abbrev cX0_countMarked : ByteArray := prog_2_method_6_code
def yX0_countMarked : MethodName := ⟨RX0, "countMarked", "()I"⟩
abbrev cX0_countMarkedFrom : ByteArray := prog_2_method_7_code
def yX0_countMarkedFrom : MethodName := ⟨RX0, "countMarkedFrom", "(I)I"⟩
abbrev cX0_removeMarked : ByteArray := prog_2_method_8_code
def yX0_removeMarked : MethodName := ⟨RX0, "removeMarked", "()I"⟩
abbrev cX0_positionFrom : ByteArray := prog_2_method_9_code
def yX0_positionFrom : MethodName := ⟨RX0, "positionFrom", "(I)I"⟩
abbrev cX0_positionOf : ByteArray := prog_2_method_10_code
def yX0_positionOf : MethodName := ⟨RX0, "positionOf", "(I)I"⟩
abbrev cX0_latestPosition : ByteArray := prog_2_method_11_code
def yX0_latestPosition : MethodName := ⟨RX0, "latestPosition", "(III)I"⟩
abbrev cX0_latestOffset : ByteArray := prog_2_method_12_code
def yX0_latestOffset : MethodName := ⟨RX0, "latestOffset", "(I)I"⟩
abbrev cX0_latestValue : ByteArray := prog_2_method_13_code
def yX0_latestValue : MethodName := ⟨RX0, "latestValue", "(I)I"⟩
abbrev cX0_countKey : ByteArray := prog_2_method_14_code
def yX0_countKey : MethodName := ⟨RX0, "countKey", "(I)I"⟩
abbrev cX0_countStorm : ByteArray := prog_2_method_15_code
def yX0_countStorm : MethodName := ⟨RX0, "countStorm", "(I)I"⟩
abbrev cX0_countEqual : ByteArray := prog_2_method_16_code
def yX0_countEqual : MethodName := ⟨RX0, "countEqual", "([II)I"⟩
abbrev cX0_copyStorm : ByteArray := prog_2_method_17_code
def yX0_copyStorm : MethodName := ⟨RX0, "copyStorm", "(I[I[I)I"⟩
def RX1 : String := "ParrotLog$Ship"
def TX1 : u_T := fun k => match k with
  | 0 => ("ParrotLog$Ship", "known", "[I", true)
  | 1 => ("ParrotLog$Ship", "pace", "I", false)
  | 2 => ("ParrotLog$Ship", "offset", "I", false)
  | 3 => ("ParrotLog$Ship", "heard", "I", false)
  | _ => ("ParrotLog$Ship", "missed", "I", false)
def tyX1 : Nat → FieldType := fun k => match k with
  | 0 => .array .int
  | 1 => .int
  | 2 => .int
  | 3 => .int
  | _ => .int
abbrev wsX10 : List Cond := u_ws RX1 TX1 5
theorem nmX1 : ∀ a, a < 5 → ∀ b, b < 5 → a ≠ b → (TX1 a).2.1 ≠ (TX1 b).2.1 := by decide +kernel
theorem tyX1_ok : ∀ k, k < 5 → parseFieldDescriptor (TX1 k).2.2.1 = some (tyX1 k) := by decide +kernel
abbrev cX1_init : ByteArray := prog_3_method_1_code
def yX1_init : MethodName := ⟨RX1, "<init>", "()V"⟩
abbrev cX1_hear : ByteArray := prog_3_method_2_code
def yX1_hear : MethodName := ⟨RX1, "hear", "(III)V"⟩
def RX2 : String := "ParrotLog"
def TX2 : u_T := fun k => match k with
  | 0 => ("ParrotLog", "log", "LParrotLog$Log;", true)
  | 1 => ("ParrotLog", "saidInStorm", "[I", true)
  | 2 => ("ParrotLog", "fleet", "[LParrotLog$Ship;", true)
  | 3 => ("ParrotLog", "replayKeys", "[I", true)
  | 4 => ("ParrotLog", "replayValues", "[I", true)
  | 5 => ("ParrotLog", "hour", "I", false)
  | 6 => ("ParrotLog", "stormCount", "I", false)
  | 7 => ("ParrotLog", "stormOn", "Z", false)
  | _ => ("ParrotLog", "shipCount", "I", false)
def tyX2 : Nat → FieldType := fun k => match k with
  | 0 => .object "ParrotLog$Log"
  | 1 => .array .int
  | 2 => .array (.object "ParrotLog$Ship")
  | 3 => .array .int
  | 4 => .array .int
  | 5 => .int
  | 6 => .int
  | 7 => .boolean
  | _ => .int
abbrev wsX20 : List Cond := u_ws RX2 TX2 9
theorem nmX2 : ∀ a, a < 9 → ∀ b, b < 9 → a ≠ b → (TX2 a).2.1 ≠ (TX2 b).2.1 := by decide +kernel
theorem tyX2_ok : ∀ k, k < 9 → parseFieldDescriptor (TX2 k).2.2.1 = some (tyX2 k) := by decide +kernel
abbrev cX2_init : ByteArray := prog_1_method_1_code
def yX2_init : MethodName := ⟨RX2, "<init>", "()V"⟩
abbrev cX2_say : ByteArray := prog_1_method_2_code
def yX2_say : MethodName := ⟨RX2, "say", "(II)I"⟩
abbrev cX2_startStorm : ByteArray := prog_1_method_3_code
def yX2_startStorm : MethodName := ⟨RX2, "startStorm", "()I"⟩
abbrev cX2_endStorm : ByteArray := prog_1_method_4_code
def yX2_endStorm : MethodName := ⟨RX2, "endStorm", "()I"⟩
abbrev cX2_replay : ByteArray := prog_1_method_5_code
def yX2_replay : MethodName := ⟨RX2, "replay", "(I)I"⟩
abbrev cX2_compact : ByteArray := prog_1_method_6_code
def yX2_compact : MethodName := ⟨RX2, "compact", "()I"⟩
abbrev cX2_trimTo : ByteArray := prog_1_method_7_code
def yX2_trimTo : MethodName := ⟨RX2, "trimTo", "(I)I"⟩
abbrev cX2_addShip : ByteArray := prog_1_method_8_code
def yX2_addShip : MethodName := ⟨RX2, "addShip", "(II)I"⟩
abbrev cX2_seek : ByteArray := prog_1_method_9_code
def yX2_seek : MethodName := ⟨RX2, "seek", "(II)I"⟩
abbrev cX2_passHours : ByteArray := prog_1_method_10_code
def yX2_passHours : MethodName := ⟨RX2, "passHours", "(I)I"⟩
abbrev cX2_hours : ByteArray := prog_1_method_11_code
def yX2_hours : MethodName := ⟨RX2, "hours", "()I"⟩
abbrev cX2_phrases : ByteArray := prog_1_method_12_code
def yX2_phrases : MethodName := ⟨RX2, "phrases", "()I"⟩
abbrev cX2_nextOffset : ByteArray := prog_1_method_13_code
def yX2_nextOffset : MethodName := ⟨RX2, "nextOffset", "()I"⟩
abbrev cX2_firstOffset : ByteArray := prog_1_method_14_code
def yX2_firstOffset : MethodName := ⟨RX2, "firstOffset", "()I"⟩
abbrev cX2_dropped : ByteArray := prog_1_method_15_code
def yX2_dropped : MethodName := ⟨RX2, "dropped", "()I"⟩
abbrev cX2_isKept : ByteArray := prog_1_method_16_code
def yX2_isKept : MethodName := ⟨RX2, "isKept", "(I)Z"⟩
abbrev cX2_keyAt : ByteArray := prog_1_method_17_code
def yX2_keyAt : MethodName := ⟨RX2, "keyAt", "(I)I"⟩
abbrev cX2_valueAt : ByteArray := prog_1_method_18_code
def yX2_valueAt : MethodName := ⟨RX2, "valueAt", "(I)I"⟩
abbrev cX2_stormAt : ByteArray := prog_1_method_19_code
def yX2_stormAt : MethodName := ⟨RX2, "stormAt", "(I)I"⟩
abbrev cX2_latestOf : ByteArray := prog_1_method_20_code
def yX2_latestOf : MethodName := ⟨RX2, "latestOf", "(I)I"⟩
abbrev cX2_valueOf : ByteArray := prog_1_method_21_code
def yX2_valueOf : MethodName := ⟨RX2, "valueOf", "(I)I"⟩
abbrev cX2_countOf : ByteArray := prog_1_method_22_code
def yX2_countOf : MethodName := ⟨RX2, "countOf", "(I)I"⟩
abbrev cX2_storms : ByteArray := prog_1_method_23_code
def yX2_storms : MethodName := ⟨RX2, "storms", "()I"⟩
abbrev cX2_isStormy : ByteArray := prog_1_method_24_code
def yX2_isStormy : MethodName := ⟨RX2, "isStormy", "()Z"⟩
abbrev cX2_saidIn : ByteArray := prog_1_method_25_code
def yX2_saidIn : MethodName := ⟨RX2, "saidIn", "(I)I"⟩
abbrev cX2_keptOf : ByteArray := prog_1_method_26_code
def yX2_keptOf : MethodName := ⟨RX2, "keptOf", "(I)I"⟩
abbrev cX2_ships : ByteArray := prog_1_method_27_code
def yX2_ships : MethodName := ⟨RX2, "ships", "()I"⟩
abbrev cX2_offsetOf : ByteArray := prog_1_method_28_code
def yX2_offsetOf : MethodName := ⟨RX2, "offsetOf", "(I)I"⟩
abbrev cX2_lagOf : ByteArray := prog_1_method_29_code
def yX2_lagOf : MethodName := ⟨RX2, "lagOf", "(I)I"⟩
abbrev cX2_heardBy : ByteArray := prog_1_method_30_code
def yX2_heardBy : MethodName := ⟨RX2, "heardBy", "(I)I"⟩
abbrev cX2_missedBy : ByteArray := prog_1_method_31_code
def yX2_missedBy : MethodName := ⟨RX2, "missedBy", "(I)I"⟩
abbrev cX2_knownBy : ByteArray := prog_1_method_32_code
def yX2_knownBy : MethodName := ⟨RX2, "knownBy", "(II)I"⟩
abbrev cX2_errorsOf : ByteArray := prog_1_method_33_code
def yX2_errorsOf : MethodName := ⟨RX2, "errorsOf", "(I)I"⟩
abbrev cX2_farthestBehind : ByteArray := prog_1_method_34_code
def yX2_farthestBehind : MethodName := ⟨RX2, "farthestBehind", "()I"⟩
abbrev cX2_wouldCompact : ByteArray := prog_1_method_38_code
def yX2_wouldCompact : MethodName := ⟨RX2, "wouldCompact", "()I"⟩
abbrev cX2_wouldMiss : ByteArray := prog_1_method_39_code
def yX2_wouldMiss : MethodName := ⟨RX2, "wouldMiss", "(I)I"⟩
abbrev cX2_meanLag : ByteArray := prog_1_method_40_code
def yX2_meanLag : MethodName := ⟨RX2, "meanLag", "()D"⟩
abbrev cX2_speak : ByteArray := prog_1_method_46_code
def yX2_speak : MethodName := ⟨RX2, "speak", "(II)I"⟩
abbrev cX2_markCompacted : ByteArray := prog_1_method_47_code
def yX2_markCompacted : MethodName := ⟨RX2, "markCompacted", "()V"⟩
abbrev cX2_leastShipOffset : ByteArray := prog_1_method_48_code
def yX2_leastShipOffset : MethodName := ⟨RX2, "leastShipOffset", "()I"⟩
abbrev cX2_dropMarked : ByteArray := prog_1_method_49_code
def yX2_dropMarked : MethodName := ⟨RX2, "dropMarked", "()I"⟩
abbrev cX2_lag : ByteArray := prog_1_method_50_code
def yX2_lag : MethodName := ⟨RX2, "lag", "(LParrotLog$Ship;)I"⟩
abbrev cX2_mostHeard : ByteArray := prog_1_method_51_code
def yX2_mostHeard : MethodName := ⟨RX2, "mostHeard", "(II)I"⟩
abbrev cX2_hearNext : ByteArray := prog_1_method_52_code
def yX2_hearNext : MethodName := ⟨RX2, "hearNext", "(LParrotLog$Ship;I)I"⟩
abbrev cX2_errorsAfter : ByteArray := prog_1_method_54_code
def yX2_errorsAfter : MethodName := ⟨RX2, "errorsAfter", "(LParrotLog$Ship;I)I"⟩
abbrev cX2_isKey : ByteArray := prog_1_method_55_code
def yX2_isKey : MethodName := ⟨RX2, "isKey", "(I)Z"⟩
abbrev cX2_checkKey : ByteArray := prog_1_method_56_code
def yX2_checkKey : MethodName := ⟨RX2, "checkKey", "(I)V"⟩
abbrev cX2_checkHours : ByteArray := prog_1_method_57_code
def yX2_checkHours : MethodName := ⟨RX2, "checkHours", "(I)V"⟩
abbrev cX2_checkReachable : ByteArray := prog_1_method_58_code
def yX2_checkReachable : MethodName := ⟨RX2, "checkReachable", "(I)V"⟩
abbrev cX2_checkStorm : ByteArray := prog_1_method_59_code
def yX2_checkStorm : MethodName := ⟨RX2, "checkStorm", "(I)V"⟩
abbrev cX2_shipNumbered : ByteArray := prog_1_method_60_code
def yX2_shipNumbered : MethodName := ⟨RX2, "shipNumbered", "(I)LParrotLog$Ship;"⟩
abbrev cX2_keptPosition : ByteArray := prog_1_method_61_code
def yX2_keptPosition : MethodName := ⟨RX2, "keptPosition", "(I)I"⟩
def RX3 : String := "ParrotLogLaw$Sim"
def TX3 : u_T := fun k => match k with
  | 0 => ("ParrotLogLaw$Sim", "hours", "I", false)
  | 1 => ("ParrotLogLaw$Sim", "next", "I", false)
  | 2 => ("ParrotLogLaw$Sim", "dropped", "I", false)
  | 3 => ("ParrotLogLaw$Sim", "isOn", "Z", false)
  | 4 => ("ParrotLogLaw$Sim", "log", "[[I", false)
  | 5 => ("ParrotLogLaw$Sim", "said", "[I", false)
  | _ => ("ParrotLogLaw$Sim", "ships", "[[I", false)
def tyX3 : Nat → FieldType := fun k => match k with
  | 0 => .int
  | 1 => .int
  | 2 => .int
  | 3 => .boolean
  | 4 => .array (.array .int)
  | 5 => .array .int
  | _ => .array (.array .int)
abbrev wsX30 : List Cond := u_ws RX3 TX3 7
theorem nmX3 : ∀ a, a < 7 → ∀ b, b < 7 → a ≠ b → (TX3 a).2.1 ≠ (TX3 b).2.1 := by decide +kernel
theorem tyX3_ok : ∀ k, k < 7 → parseFieldDescriptor (TX3 k).2.2.1 = some (tyX3 k) := by decide +kernel
abbrev cX3_init : ByteArray := prog_5_method_1_code
def yX3_init : MethodName := ⟨RX3, "<init>", "()V"⟩
abbrev cX3_with : ByteArray := prog_5_method_2_code
def yX3_with : MethodName := ⟨RX3, "with", "([[I[I)[[I"⟩
abbrev cX3_dropAt : ByteArray := prog_5_method_3_code
def yX3_dropAt : MethodName := ⟨RX3, "dropAt", "(I)V"⟩
abbrev cX3_say : ByteArray := prog_5_method_4_code
def yX3_say : MethodName := ⟨RX3, "say", "(II)I"⟩
abbrev cX3_compact : ByteArray := prog_5_method_5_code
def yX3_compact : MethodName := ⟨RX3, "compact", "()I"⟩
abbrev cX3_pass : ByteArray := prog_5_method_6_code
def yX3_pass : MethodName := ⟨RX3, "pass", "(I)I"⟩
abbrev cX3_lag : ByteArray := prog_5_method_7_code
def yX3_lag : MethodName := ⟨RX3, "lag", "([I)I"⟩
abbrev cX3_value : ByteArray := prog_5_method_8_code
def yX3_value : MethodName := ⟨RX3, "value", "(I)I"⟩
abbrev cX3_errors : ByteArray := prog_5_method_9_code
def yX3_errors : MethodName := ⟨RX3, "errors", "([I)I"⟩
abbrev cX3_isSame : ByteArray := prog_5_method_11_code
def yX3_isSame : MethodName := ⟨RX3, "isSame", "(LParrotLog;)Z"⟩
def RX4 : String := "ParrotLogModel"
def TX4 : u_T := fun k => match k with
  | _ => ("", "", "", false)
def tyX4 : Nat → FieldType := fun k => match k with
  | _ => .int
abbrev wsX40 : List Cond := u_ws RX4 TX4 0
theorem nmX4 : ∀ a, a < 0 → ∀ b, b < 0 → a ≠ b → (TX4 a).2.1 ≠ (TX4 b).2.1 := by decide +kernel
theorem tyX4_ok : ∀ k, k < 0 → parseFieldDescriptor (TX4 k).2.2.1 = some (tyX4 k) := by decide +kernel
def RJ9 : String := "java/lang/Math"
def TJ9 : u_T := fun k => match k with
  | _ => ("", "", "", false)
def tyJ9 : Nat → FieldType := fun k => match k with
  | _ => .int
abbrev wsJ90 : List Cond := u_ws RJ9 TJ9 0
theorem nmJ9 : ∀ a, a < 0 → ∀ b, b < 0 → a ≠ b → (TJ9 a).2.1 ≠ (TJ9 b).2.1 := by decide +kernel
theorem tyJ9_ok : ∀ k, k < 0 → parseFieldDescriptor (TJ9 k).2.2.1 = some (tyJ9 k) := by decide +kernel
abbrev cJ9_min_7cf53 : ByteArray := prog_11_method_69_code
def yJ9_min_7cf53 : MethodName := ⟨RJ9, "min", "(II)I"⟩
def RJ0 : String := "java/lang/String"
def TJ0 : u_T := fun k => match k with
  | _ => ("", "", "", false)
def tyJ0 : Nat → FieldType := fun k => match k with
  | _ => .int
abbrev wsJ00 : List Cond := u_ws RJ0 TJ0 0
theorem nmJ0 : ∀ a, a < 0 → ∀ b, b < 0 → a ≠ b → (TJ0 a).2.1 ≠ (TJ0 b).2.1 := by decide +kernel
theorem tyJ0_ok : ∀ k, k < 0 → parseFieldDescriptor (TJ0 k).2.2.1 = some (tyJ0 k) := by decide +kernel
def RL : String := "ParrotLogLaw"
abbrev cL_below : ByteArray := method_2_code
def yL_below : MethodName := ⟨RL, "below", "(II)I"⟩
abbrev cL_cell : ByteArray := method_3_code
def yL_cell : MethodName := ⟨RL, "cell", "([II)I"⟩
abbrev cL_act : ByteArray := method_4_code
def yL_act : MethodName := ⟨RL, "act", "(LParrotLog;LParrotLogLaw$Sim;I)Z"⟩
abbrev cL_build : ByteArray := method_5_code
def yL_build : MethodName := ⟨RL, "build", "(LParrotLog;[I)LParrotLogLaw$Sim;"⟩
abbrev cL_law : ByteArray := code
def yL_law : MethodName := ⟨RL, "law", "([I)Z"⟩
def wsX0_init : List Cond := .code yX0_init cX0_init 1 none :: ([.methodLink RX0 3 objectInit, .instanceMethod objectInit, .code objectInit ⟨#[0xb1]⟩ 1 none, .arrayClass .int, .fieldLink RX0 9 "ParrotLog$Log" "offsets" "[I", .fieldLink RX0 15 "ParrotLog$Log" "keys" "[I", .fieldLink RX0 18 "ParrotLog$Log" "values" "[I", .fieldLink RX0 21 "ParrotLog$Log" "stormNumbers" "[I", .arrayClass .boolean, .fieldLink RX0 24 "ParrotLog$Log" "marked" "[Z"] ++ wsX00)
def wsX0_append : List Cond := .code yX0_append cX0_append 4 (some .int) :: ([.fieldLink RX0 9 "ParrotLog$Log" "offsets" "[I", .fieldLink RX0 28 "ParrotLog$Log" "size" "I", .fieldLink RX0 32 "ParrotLog$Log" "next" "I", .fieldLink RX0 15 "ParrotLog$Log" "keys" "[I", .fieldLink RX0 18 "ParrotLog$Log" "values" "[I", .fieldLink RX0 21 "ParrotLog$Log" "stormNumbers" "[I"] ++ wsX00)
def wsX0_markFirst : List Cond := .code yX0_markFirst cX0_markFirst 2 none :: ([.fieldLink RX0 28 "ParrotLog$Log" "size" "I", .fieldLink RX0 24 "ParrotLog$Log" "marked" "[Z"] ++ wsX00)
def wsX0_markAhead : List Cond := .code yX0_markAhead cX0_markAhead 3 none :: ([.fieldLink RX0 28 "ParrotLog$Log" "size" "I", .fieldLink RX0 24 "ParrotLog$Log" "marked" "[Z", .fieldLink RX0 9 "ParrotLog$Log" "offsets" "[I"] ++ wsX00)
def wsX0_latestPosition : List Cond := .code yX0_latestPosition cX0_latestPosition 5 (some .int) :: ([.fieldLink RX0 15 "ParrotLog$Log" "keys" "[I"] ++ wsX00)
def wsX0_markCompacted : List Cond := .code yX0_markCompacted cX0_markCompacted 5 none :: ([.fieldLink RX0 28 "ParrotLog$Log" "size" "I", .fieldLink RX0 15 "ParrotLog$Log" "keys" "[I", .fieldLink RX0 18 "ParrotLog$Log" "values" "[I", .fieldLink RX0 9 "ParrotLog$Log" "offsets" "[I", .fieldLink RX0 24 "ParrotLog$Log" "marked" "[Z", .methodLink RX0 35 yX0_latestPosition, .instanceMethod yX0_latestPosition, .selects RX0 yX0_latestPosition yX0_latestPosition, .initialized RX0, .code yX0_latestPosition cX0_latestPosition 5 (some .int)] ++ wsX00)
def wsX0_positionFrom : List Cond := .code yX0_positionFrom cX0_positionFrom 3 (some .int) :: ([.fieldLink RX0 28 "ParrotLog$Log" "size" "I", .fieldLink RX0 9 "ParrotLog$Log" "offsets" "[I"] ++ wsX00)
def wsX0_countMarkedFrom : List Cond := .code yX0_countMarkedFrom cX0_countMarkedFrom 4 (some .int) :: ([.fieldLink RX0 28 "ParrotLog$Log" "size" "I", .fieldLink RX0 24 "ParrotLog$Log" "marked" "[Z", .methodLink RX0 43 yX0_positionFrom, .instanceMethod yX0_positionFrom, .selects RX0 yX0_positionFrom yX0_positionFrom, .initialized RX0, .code yX0_positionFrom cX0_positionFrom 3 (some .int), .fieldLink RX0 9 "ParrotLog$Log" "offsets" "[I"] ++ wsX00)
def wsX0_countMarked : List Cond := .code yX0_countMarked cX0_countMarked 1 (some .int) :: ([.methodLink RX0 39 yX0_countMarkedFrom, .instanceMethod yX0_countMarkedFrom, .selects RX0 yX0_countMarkedFrom yX0_countMarkedFrom, .initialized RX0, .code yX0_countMarkedFrom cX0_countMarkedFrom 4 (some .int), .fieldLink RX0 28 "ParrotLog$Log" "size" "I", .fieldLink RX0 24 "ParrotLog$Log" "marked" "[Z", .methodLink RX0 43 yX0_positionFrom, .instanceMethod yX0_positionFrom, .selects RX0 yX0_positionFrom yX0_positionFrom, .code yX0_positionFrom cX0_positionFrom 3 (some .int), .fieldLink RX0 9 "ParrotLog$Log" "offsets" "[I"] ++ wsX00)
def wsX0_removeMarked : List Cond := .code yX0_removeMarked cX0_removeMarked 3 (some .int) :: ([.fieldLink RX0 28 "ParrotLog$Log" "size" "I", .fieldLink RX0 24 "ParrotLog$Log" "marked" "[Z", .fieldLink RX0 9 "ParrotLog$Log" "offsets" "[I", .fieldLink RX0 15 "ParrotLog$Log" "keys" "[I", .fieldLink RX0 18 "ParrotLog$Log" "values" "[I", .fieldLink RX0 21 "ParrotLog$Log" "stormNumbers" "[I", .fieldLink RX0 46 "ParrotLog$Log" "droppedInAll" "I"] ++ wsX00)
def wsX0_positionOf : List Cond := .code yX0_positionOf cX0_positionOf 3 (some .int) :: ([.fieldLink RX0 28 "ParrotLog$Log" "size" "I", .fieldLink RX0 9 "ParrotLog$Log" "offsets" "[I", .methodLink RX0 43 yX0_positionFrom, .instanceMethod yX0_positionFrom, .selects RX0 yX0_positionFrom yX0_positionFrom, .initialized RX0, .code yX0_positionFrom cX0_positionFrom 3 (some .int)] ++ wsX00)
def wsX0_latestOffset : List Cond := .code yX0_latestOffset cX0_latestOffset 3 (some .int) :: ([.fieldLink RX0 28 "ParrotLog$Log" "size" "I", .fieldLink RX0 9 "ParrotLog$Log" "offsets" "[I", .methodLink RX0 35 yX0_latestPosition, .instanceMethod yX0_latestPosition, .selects RX0 yX0_latestPosition yX0_latestPosition, .initialized RX0, .code yX0_latestPosition cX0_latestPosition 5 (some .int), .fieldLink RX0 15 "ParrotLog$Log" "keys" "[I"] ++ wsX00)
def wsX0_latestValue : List Cond := .code yX0_latestValue cX0_latestValue 3 (some .int) :: ([.fieldLink RX0 28 "ParrotLog$Log" "size" "I", .fieldLink RX0 18 "ParrotLog$Log" "values" "[I", .methodLink RX0 35 yX0_latestPosition, .instanceMethod yX0_latestPosition, .selects RX0 yX0_latestPosition yX0_latestPosition, .initialized RX0, .code yX0_latestPosition cX0_latestPosition 5 (some .int), .fieldLink RX0 15 "ParrotLog$Log" "keys" "[I"] ++ wsX00)
def wsX0_countEqual : List Cond := .code yX0_countEqual cX0_countEqual 5 (some .int) :: ([.fieldLink RX0 28 "ParrotLog$Log" "size" "I"] ++ wsX00)
def wsX0_countKey : List Cond := .code yX0_countKey cX0_countKey 2 (some .int) :: ([.fieldLink RX0 15 "ParrotLog$Log" "keys" "[I", .methodLink RX0 49 yX0_countEqual, .instanceMethod yX0_countEqual, .selects RX0 yX0_countEqual yX0_countEqual, .initialized RX0, .code yX0_countEqual cX0_countEqual 5 (some .int), .fieldLink RX0 28 "ParrotLog$Log" "size" "I"] ++ wsX00)
def wsX0_countStorm : List Cond := .code yX0_countStorm cX0_countStorm 2 (some .int) :: ([.fieldLink RX0 21 "ParrotLog$Log" "stormNumbers" "[I", .methodLink RX0 49 yX0_countEqual, .instanceMethod yX0_countEqual, .selects RX0 yX0_countEqual yX0_countEqual, .initialized RX0, .code yX0_countEqual cX0_countEqual 5 (some .int), .fieldLink RX0 28 "ParrotLog$Log" "size" "I"] ++ wsX00)
def wsX0_copyStorm : List Cond := .code yX0_copyStorm cX0_copyStorm 6 (some .int) :: ([.fieldLink RX0 28 "ParrotLog$Log" "size" "I", .fieldLink RX0 21 "ParrotLog$Log" "stormNumbers" "[I", .fieldLink RX0 15 "ParrotLog$Log" "keys" "[I", .fieldLink RX0 18 "ParrotLog$Log" "values" "[I"] ++ wsX00)
def wsX1_init : List Cond := .code yX1_init cX1_init 1 none :: ([.methodLink RX1 3 objectInit, .instanceMethod objectInit, .code objectInit ⟨#[0xb1]⟩ 1 none, .arrayClass .int, .fieldLink RX1 9 "ParrotLog$Ship" "known" "[I"] ++ wsX10)
def wsX1_hear : List Cond := .code yX1_hear cX1_hear 4 none :: ([.fieldLink RX1 9 "ParrotLog$Ship" "known" "[I", .fieldLink RX1 15 "ParrotLog$Ship" "offset" "I", .fieldLink RX1 19 "ParrotLog$Ship" "heard" "I"] ++ wsX10)
def wsX2_init_r1 : List Cond := [Cond.methodLink RX2 1 objectInit, Cond.instanceMethod objectInit, Cond.code objectInit ⟨#[0xb1]⟩ 1 none, Cond.classLink RX2 7 RX0, Cond.instantiable RX0 8, Cond.initialized RX0, Cond.fieldLink RX2 10 "ParrotLog" "log" "LParrotLog$Log;", Cond.arrayClass .int, Cond.fieldLink RX2 16 "ParrotLog" "saidInStorm" "[I", Cond.classLink RX2 20 RX1, Cond.fieldLink RX2 22 "ParrotLog" "fleet" "[LParrotLog$Ship;", Cond.instantiable RX1 5, Cond.initialized RX1, Cond.fieldLink RX2 27 "ParrotLog" "replayKeys" "[I", Cond.fieldLink RX2 30 "ParrotLog" "replayValues" "[I", Cond.instanceMethod yX0_init, Cond.code yX0_init cX0_init 1 none, Cond.methodLink RX0 3 objectInit, Cond.fieldLink RX0 9 "ParrotLog$Log" "offsets" "[I", Cond.fieldLink RX0 15 "ParrotLog$Log" "keys" "[I", Cond.fieldLink RX0 18 "ParrotLog$Log" "values" "[I", Cond.fieldLink RX0 21 "ParrotLog$Log" "stormNumbers" "[I", Cond.arrayClass .boolean, Cond.fieldLink RX0 24 "ParrotLog$Log" "marked" "[Z"]
def wsX2_init_r2 : List Cond := [Cond.instanceMethod yX1_init, Cond.code yX1_init cX1_init 1 none, Cond.methodLink RX1 3 objectInit, Cond.fieldLink RX1 9 "ParrotLog$Ship" "known" "[I"]
def wsX2_init : List Cond := .code yX2_init cX2_init 2 none :: ((wsX2_init_r1 ++ wsX2_init_r2) ++ wsX00 ++ wsX20 ++ wsX10)
def wsX2_isKey : List Cond := .code yX2_isKey cX2_isKey 1 (some .boolean) :: ([])
def wsX2_dropMarked : List Cond := .code yX2_dropMarked cX2_dropMarked 2 (some .int) :: ([.fieldLink RX2 90 "ParrotLog" "shipCount" "I", .fieldLink RX2 22 "ParrotLog" "fleet" "[LParrotLog$Ship;", .fieldLink RX2 10 "ParrotLog" "log" "LParrotLog$Log;", .instanceMethod yX0_countMarkedFrom, .initialized RX0, .selects RX0 yX0_countMarkedFrom yX0_countMarkedFrom, .code yX0_countMarkedFrom cX0_countMarkedFrom 4 (some .int), .fieldLink RX0 28 "ParrotLog$Log" "size" "I", .fieldLink RX0 24 "ParrotLog$Log" "marked" "[Z", .methodLink RX0 43 yX0_positionFrom, .instanceMethod yX0_positionFrom, .selects RX0 yX0_positionFrom yX0_positionFrom, .code yX0_positionFrom cX0_positionFrom 3 (some .int), .fieldLink RX0 9 "ParrotLog$Log" "offsets" "[I", .instanceMethod yX0_removeMarked, .selects RX0 yX0_removeMarked yX0_removeMarked, .code yX0_removeMarked cX0_removeMarked 3 (some .int), .fieldLink RX0 15 "ParrotLog$Log" "keys" "[I", .fieldLink RX0 18 "ParrotLog$Log" "values" "[I", .fieldLink RX0 21 "ParrotLog$Log" "stormNumbers" "[I", .fieldLink RX0 46 "ParrotLog$Log" "droppedInAll" "I"] ++ wsX20 ++ wsX10 ++ wsX00)
def wsX2_speak_r1 : List Cond := [Cond.fieldLink RX2 10 "ParrotLog" "log" "LParrotLog$Log;", Cond.fieldLink RX2 50 "ParrotLog" "stormOn" "Z", Cond.fieldLink RX2 59 "ParrotLog" "stormCount" "I", Cond.fieldLink RX2 16 "ParrotLog" "saidInStorm" "[I", Cond.instanceMethod yX0_markFirst, Cond.initialized RX0, Cond.selects RX0 yX0_markFirst yX0_markFirst, Cond.code yX0_markFirst cX0_markFirst 2 none, Cond.fieldLink RX0 28 "ParrotLog$Log" "size" "I", Cond.fieldLink RX0 24 "ParrotLog$Log" "marked" "[Z", Cond.methodLink RX2 78 yX2_dropMarked, Cond.instanceMethod yX2_dropMarked, Cond.selects RX2 yX2_dropMarked yX2_dropMarked, Cond.initialized RX2, Cond.code yX2_dropMarked cX2_dropMarked 2 (some .int), Cond.fieldLink RX2 90 "ParrotLog" "shipCount" "I", Cond.fieldLink RX2 22 "ParrotLog" "fleet" "[LParrotLog$Ship;", Cond.instanceMethod yX0_countMarkedFrom, Cond.selects RX0 yX0_countMarkedFrom yX0_countMarkedFrom, Cond.code yX0_countMarkedFrom cX0_countMarkedFrom 4 (some .int), Cond.methodLink RX0 43 yX0_positionFrom, Cond.instanceMethod yX0_positionFrom, Cond.selects RX0 yX0_positionFrom yX0_positionFrom, Cond.code yX0_positionFrom cX0_positionFrom 3 (some .int)]
def wsX2_speak_r2 : List Cond := [Cond.fieldLink RX0 9 "ParrotLog$Log" "offsets" "[I", Cond.instanceMethod yX0_removeMarked, Cond.selects RX0 yX0_removeMarked yX0_removeMarked, Cond.code yX0_removeMarked cX0_removeMarked 3 (some .int), Cond.fieldLink RX0 15 "ParrotLog$Log" "keys" "[I", Cond.fieldLink RX0 18 "ParrotLog$Log" "values" "[I", Cond.fieldLink RX0 21 "ParrotLog$Log" "stormNumbers" "[I", Cond.fieldLink RX0 46 "ParrotLog$Log" "droppedInAll" "I", Cond.instanceMethod yX0_append, Cond.selects RX0 yX0_append yX0_append, Cond.code yX0_append cX0_append 4 (some .int), Cond.fieldLink RX0 32 "ParrotLog$Log" "next" "I"]
def wsX2_speak : List Cond := .code yX2_speak cX2_speak 4 (some .int) :: ((wsX2_speak_r1 ++ wsX2_speak_r2) ++ wsX20 ++ wsX00 ++ wsX10)
def wsX2_say_r1 : List Cond := [Cond.classLink RX2 37 "java/lang/IllegalArgumentException", Cond.initialized "java/lang/IllegalArgumentException", Cond.methodLink RX2 33 yX2_isKey, Cond.static yX2_isKey, Cond.initialized RX2, Cond.code yX2_isKey cX2_isKey 1 (some .boolean), Cond.methodLink RX2 46 yX2_speak, Cond.instanceMethod yX2_speak, Cond.selects RX2 yX2_speak yX2_speak, Cond.code yX2_speak cX2_speak 4 (some .int), Cond.fieldLink RX2 10 "ParrotLog" "log" "LParrotLog$Log;", Cond.fieldLink RX2 50 "ParrotLog" "stormOn" "Z", Cond.fieldLink RX2 59 "ParrotLog" "stormCount" "I", Cond.fieldLink RX2 16 "ParrotLog" "saidInStorm" "[I", Cond.instanceMethod yX0_markFirst, Cond.initialized RX0, Cond.selects RX0 yX0_markFirst yX0_markFirst, Cond.code yX0_markFirst cX0_markFirst 2 none, Cond.fieldLink RX0 28 "ParrotLog$Log" "size" "I", Cond.fieldLink RX0 24 "ParrotLog$Log" "marked" "[Z", Cond.methodLink RX2 78 yX2_dropMarked, Cond.instanceMethod yX2_dropMarked, Cond.selects RX2 yX2_dropMarked yX2_dropMarked, Cond.code yX2_dropMarked cX2_dropMarked 2 (some .int)]
def wsX2_say_r2 : List Cond := [Cond.fieldLink RX2 90 "ParrotLog" "shipCount" "I", Cond.fieldLink RX2 22 "ParrotLog" "fleet" "[LParrotLog$Ship;", Cond.instanceMethod yX0_countMarkedFrom, Cond.selects RX0 yX0_countMarkedFrom yX0_countMarkedFrom, Cond.code yX0_countMarkedFrom cX0_countMarkedFrom 4 (some .int), Cond.methodLink RX0 43 yX0_positionFrom, Cond.instanceMethod yX0_positionFrom, Cond.selects RX0 yX0_positionFrom yX0_positionFrom, Cond.code yX0_positionFrom cX0_positionFrom 3 (some .int), Cond.fieldLink RX0 9 "ParrotLog$Log" "offsets" "[I", Cond.instanceMethod yX0_removeMarked, Cond.selects RX0 yX0_removeMarked yX0_removeMarked, Cond.code yX0_removeMarked cX0_removeMarked 3 (some .int), Cond.fieldLink RX0 15 "ParrotLog$Log" "keys" "[I", Cond.fieldLink RX0 18 "ParrotLog$Log" "values" "[I", Cond.fieldLink RX0 21 "ParrotLog$Log" "stormNumbers" "[I", Cond.fieldLink RX0 46 "ParrotLog$Log" "droppedInAll" "I", Cond.instanceMethod yX0_append, Cond.selects RX0 yX0_append yX0_append, Cond.code yX0_append cX0_append 4 (some .int), Cond.fieldLink RX0 32 "ParrotLog$Log" "next" "I"]
def wsX2_say : List Cond := .code yX2_say cX2_say 3 (some .int) :: ((wsX2_say_r1 ++ wsX2_say_r2) ++ wsX20 ++ wsX00 ++ wsX10 ++ (vx_atS RX2 41 "java/lang/IllegalArgumentException" ["java/lang/RuntimeException", "java/lang/Exception"]).filter goodWord)
def wsX2_startStorm : List Cond := .code yX2_startStorm cX2_startStorm 1 (some .int) :: ([.classLink RX2 54 "java/lang/IllegalStateException", .initialized "java/lang/IllegalStateException", .fieldLink RX2 50 "ParrotLog" "stormOn" "Z", .fieldLink RX2 59 "ParrotLog" "stormCount" "I"] ++ wsX20 ++ (vx_atS RX2 58 "java/lang/IllegalStateException" ["java/lang/RuntimeException", "java/lang/Exception"]).filter goodWord)
def wsX2_endStorm : List Cond := .code yX2_endStorm cX2_endStorm 1 (some .int) :: ([.classLink RX2 54 "java/lang/IllegalStateException", .initialized "java/lang/IllegalStateException", .fieldLink RX2 50 "ParrotLog" "stormOn" "Z", .fieldLink RX2 16 "ParrotLog" "saidInStorm" "[I", .fieldLink RX2 59 "ParrotLog" "stormCount" "I"] ++ wsX20 ++ (vx_atS RX2 58 "java/lang/IllegalStateException" ["java/lang/RuntimeException", "java/lang/Exception"]).filter goodWord)
def wsX2_checkStorm : List Cond := .code yX2_checkStorm cX2_checkStorm 2 none :: ([.classLink RX2 243 "java/lang/IndexOutOfBoundsException", .initialized "java/lang/IndexOutOfBoundsException", .fieldLink RX2 59 "ParrotLog" "stormCount" "I"] ++ wsX20 ++ (vx_atS RX2 245 "java/lang/IndexOutOfBoundsException" ["java/lang/RuntimeException", "java/lang/Exception"]).filter goodWord)
def wsX2_replay_r1 : List Cond := [Cond.classLink RX2 54 "java/lang/IllegalStateException", Cond.initialized "java/lang/IllegalStateException", Cond.fieldLink RX2 50 "ParrotLog" "stormOn" "Z", Cond.fieldLink RX2 10 "ParrotLog" "log" "LParrotLog$Log;", Cond.fieldLink RX2 27 "ParrotLog" "replayKeys" "[I", Cond.fieldLink RX2 30 "ParrotLog" "replayValues" "[I", Cond.methodLink RX2 67 yX2_checkStorm, Cond.instanceMethod yX2_checkStorm, Cond.selects RX2 yX2_checkStorm yX2_checkStorm, Cond.initialized RX2, Cond.code yX2_checkStorm cX2_checkStorm 2 none, Cond.classLink RX2 243 "java/lang/IndexOutOfBoundsException", Cond.initialized "java/lang/IndexOutOfBoundsException", Cond.fieldLink RX2 59 "ParrotLog" "stormCount" "I", Cond.instanceMethod yX0_copyStorm, Cond.initialized RX0, Cond.selects RX0 yX0_copyStorm yX0_copyStorm, Cond.code yX0_copyStorm cX0_copyStorm 6 (some .int), Cond.fieldLink RX0 28 "ParrotLog$Log" "size" "I", Cond.fieldLink RX0 21 "ParrotLog$Log" "stormNumbers" "[I", Cond.fieldLink RX0 15 "ParrotLog$Log" "keys" "[I", Cond.fieldLink RX0 18 "ParrotLog$Log" "values" "[I", Cond.methodLink RX2 46 yX2_speak, Cond.instanceMethod yX2_speak]
def wsX2_replay_r2 : List Cond := [Cond.selects RX2 yX2_speak yX2_speak, Cond.code yX2_speak cX2_speak 4 (some .int), Cond.fieldLink RX2 16 "ParrotLog" "saidInStorm" "[I", Cond.instanceMethod yX0_markFirst, Cond.selects RX0 yX0_markFirst yX0_markFirst, Cond.code yX0_markFirst cX0_markFirst 2 none, Cond.fieldLink RX0 24 "ParrotLog$Log" "marked" "[Z", Cond.methodLink RX2 78 yX2_dropMarked, Cond.instanceMethod yX2_dropMarked, Cond.selects RX2 yX2_dropMarked yX2_dropMarked, Cond.code yX2_dropMarked cX2_dropMarked 2 (some .int), Cond.fieldLink RX2 90 "ParrotLog" "shipCount" "I", Cond.fieldLink RX2 22 "ParrotLog" "fleet" "[LParrotLog$Ship;", Cond.instanceMethod yX0_countMarkedFrom, Cond.selects RX0 yX0_countMarkedFrom yX0_countMarkedFrom, Cond.code yX0_countMarkedFrom cX0_countMarkedFrom 4 (some .int), Cond.methodLink RX0 43 yX0_positionFrom, Cond.instanceMethod yX0_positionFrom, Cond.selects RX0 yX0_positionFrom yX0_positionFrom, Cond.code yX0_positionFrom cX0_positionFrom 3 (some .int), Cond.fieldLink RX0 9 "ParrotLog$Log" "offsets" "[I", Cond.instanceMethod yX0_removeMarked, Cond.selects RX0 yX0_removeMarked yX0_removeMarked, Cond.code yX0_removeMarked cX0_removeMarked 3 (some .int)]
def wsX2_replay_r3 : List Cond := [Cond.fieldLink RX0 46 "ParrotLog$Log" "droppedInAll" "I", Cond.instanceMethod yX0_append, Cond.selects RX0 yX0_append yX0_append, Cond.code yX0_append cX0_append 4 (some .int), Cond.fieldLink RX0 32 "ParrotLog$Log" "next" "I"]
def wsX2_replay : List Cond := .code yX2_replay cX2_replay 4 (some .int) :: ((wsX2_replay_r1 ++ (wsX2_replay_r2 ++ wsX2_replay_r3)) ++ wsX20 ++ wsX00 ++ wsX10 ++ (vx_atS RX2 58 "java/lang/IllegalStateException" ["java/lang/RuntimeException", "java/lang/Exception"]).filter goodWord ++ (vx_atS RX2 245 "java/lang/IndexOutOfBoundsException" ["java/lang/RuntimeException", "java/lang/Exception"]).filter goodWord)
def wsX2_leastShipOffset : List Cond := .code yX2_leastShipOffset cX2_leastShipOffset 3 (some .int) :: ([.fieldLink RX2 10 "ParrotLog" "log" "LParrotLog$Log;", .fieldLink RX2 90 "ParrotLog" "shipCount" "I", .fieldLink RX2 22 "ParrotLog" "fleet" "[LParrotLog$Ship;", .methodLink RX2 225 Lib.Math.min.name, .static Lib.Math.min.name, .initialized "java/lang/Math", .code Lib.Math.min.name Lib.Math.min.code 2 (some .int)] ++ wsX20 ++ wsX00 ++ wsX10)
def wsX2_markCompacted_r1 : List Cond := [Cond.fieldLink RX2 10 "ParrotLog" "log" "LParrotLog$Log;", Cond.methodLink RX2 220 yX2_leastShipOffset, Cond.instanceMethod yX2_leastShipOffset, Cond.selects RX2 yX2_leastShipOffset yX2_leastShipOffset, Cond.initialized RX2, Cond.code yX2_leastShipOffset cX2_leastShipOffset 3 (some .int), Cond.fieldLink RX2 90 "ParrotLog" "shipCount" "I", Cond.fieldLink RX2 22 "ParrotLog" "fleet" "[LParrotLog$Ship;", Cond.methodLink RX2 225 Lib.Math.min.name, Cond.static Lib.Math.min.name, Cond.initialized "java/lang/Math", Cond.code Lib.Math.min.name Lib.Math.min.code 2 (some .int), Cond.instanceMethod yX0_markCompacted, Cond.initialized RX0, Cond.selects RX0 yX0_markCompacted yX0_markCompacted, Cond.code yX0_markCompacted cX0_markCompacted 5 none, Cond.fieldLink RX0 28 "ParrotLog$Log" "size" "I", Cond.fieldLink RX0 15 "ParrotLog$Log" "keys" "[I", Cond.fieldLink RX0 18 "ParrotLog$Log" "values" "[I", Cond.fieldLink RX0 9 "ParrotLog$Log" "offsets" "[I", Cond.fieldLink RX0 24 "ParrotLog$Log" "marked" "[Z", Cond.methodLink RX0 35 yX0_latestPosition, Cond.instanceMethod yX0_latestPosition, Cond.selects RX0 yX0_latestPosition yX0_latestPosition]
def wsX2_markCompacted_r2 : List Cond := [Cond.code yX0_latestPosition cX0_latestPosition 5 (some .int)]
def wsX2_markCompacted : List Cond := .code yX2_markCompacted cX2_markCompacted 1 none :: ((wsX2_markCompacted_r1 ++ wsX2_markCompacted_r2) ++ wsX20 ++ wsX00 ++ wsX10)
def wsX2_compact_r1 : List Cond := [Cond.methodLink RX2 75 yX2_markCompacted, Cond.instanceMethod yX2_markCompacted, Cond.selects RX2 yX2_markCompacted yX2_markCompacted, Cond.initialized RX2, Cond.code yX2_markCompacted cX2_markCompacted 1 none, Cond.fieldLink RX2 10 "ParrotLog" "log" "LParrotLog$Log;", Cond.methodLink RX2 220 yX2_leastShipOffset, Cond.instanceMethod yX2_leastShipOffset, Cond.selects RX2 yX2_leastShipOffset yX2_leastShipOffset, Cond.code yX2_leastShipOffset cX2_leastShipOffset 3 (some .int), Cond.fieldLink RX2 90 "ParrotLog" "shipCount" "I", Cond.fieldLink RX2 22 "ParrotLog" "fleet" "[LParrotLog$Ship;", Cond.methodLink RX2 225 Lib.Math.min.name, Cond.static Lib.Math.min.name, Cond.initialized "java/lang/Math", Cond.code Lib.Math.min.name Lib.Math.min.code 2 (some .int), Cond.instanceMethod yX0_markCompacted, Cond.initialized RX0, Cond.selects RX0 yX0_markCompacted yX0_markCompacted, Cond.code yX0_markCompacted cX0_markCompacted 5 none, Cond.fieldLink RX0 28 "ParrotLog$Log" "size" "I", Cond.fieldLink RX0 15 "ParrotLog$Log" "keys" "[I", Cond.fieldLink RX0 18 "ParrotLog$Log" "values" "[I", Cond.fieldLink RX0 9 "ParrotLog$Log" "offsets" "[I"]
def wsX2_compact_r2 : List Cond := [Cond.fieldLink RX0 24 "ParrotLog$Log" "marked" "[Z", Cond.methodLink RX0 35 yX0_latestPosition, Cond.instanceMethod yX0_latestPosition, Cond.selects RX0 yX0_latestPosition yX0_latestPosition, Cond.code yX0_latestPosition cX0_latestPosition 5 (some .int), Cond.methodLink RX2 78 yX2_dropMarked, Cond.instanceMethod yX2_dropMarked, Cond.selects RX2 yX2_dropMarked yX2_dropMarked, Cond.code yX2_dropMarked cX2_dropMarked 2 (some .int), Cond.instanceMethod yX0_countMarkedFrom, Cond.selects RX0 yX0_countMarkedFrom yX0_countMarkedFrom, Cond.code yX0_countMarkedFrom cX0_countMarkedFrom 4 (some .int), Cond.methodLink RX0 43 yX0_positionFrom, Cond.instanceMethod yX0_positionFrom, Cond.selects RX0 yX0_positionFrom yX0_positionFrom, Cond.code yX0_positionFrom cX0_positionFrom 3 (some .int), Cond.instanceMethod yX0_removeMarked, Cond.selects RX0 yX0_removeMarked yX0_removeMarked, Cond.code yX0_removeMarked cX0_removeMarked 3 (some .int), Cond.fieldLink RX0 21 "ParrotLog$Log" "stormNumbers" "[I", Cond.fieldLink RX0 46 "ParrotLog$Log" "droppedInAll" "I"]
def wsX2_compact : List Cond := .code yX2_compact cX2_compact 1 (some .int) :: ((wsX2_compact_r1 ++ wsX2_compact_r2) ++ wsX20 ++ wsX00 ++ wsX10)
def wsX2_checkReachable : List Cond := .code yX2_checkReachable cX2_checkReachable 2 none :: ([.classLink RX2 37 "java/lang/IllegalArgumentException", .initialized "java/lang/IllegalArgumentException", .fieldLink RX2 10 "ParrotLog" "log" "LParrotLog$Log;"] ++ wsX20 ++ wsX00 ++ (vx_atS RX2 41 "java/lang/IllegalArgumentException" ["java/lang/RuntimeException", "java/lang/Exception"]).filter goodWord)
def wsX2_trimTo_r1 : List Cond := [Cond.fieldLink RX2 10 "ParrotLog" "log" "LParrotLog$Log;", Cond.methodLink RX2 82 yX2_checkReachable, Cond.instanceMethod yX2_checkReachable, Cond.selects RX2 yX2_checkReachable yX2_checkReachable, Cond.initialized RX2, Cond.code yX2_checkReachable cX2_checkReachable 2 none, Cond.classLink RX2 37 "java/lang/IllegalArgumentException", Cond.initialized "java/lang/IllegalArgumentException", Cond.instanceMethod yX0_markAhead, Cond.initialized RX0, Cond.selects RX0 yX0_markAhead yX0_markAhead, Cond.code yX0_markAhead cX0_markAhead 3 none, Cond.fieldLink RX0 28 "ParrotLog$Log" "size" "I", Cond.fieldLink RX0 24 "ParrotLog$Log" "marked" "[Z", Cond.fieldLink RX0 9 "ParrotLog$Log" "offsets" "[I", Cond.methodLink RX2 78 yX2_dropMarked, Cond.instanceMethod yX2_dropMarked, Cond.selects RX2 yX2_dropMarked yX2_dropMarked, Cond.code yX2_dropMarked cX2_dropMarked 2 (some .int), Cond.fieldLink RX2 90 "ParrotLog" "shipCount" "I", Cond.fieldLink RX2 22 "ParrotLog" "fleet" "[LParrotLog$Ship;", Cond.instanceMethod yX0_countMarkedFrom, Cond.selects RX0 yX0_countMarkedFrom yX0_countMarkedFrom, Cond.code yX0_countMarkedFrom cX0_countMarkedFrom 4 (some .int)]
def wsX2_trimTo_r2 : List Cond := [Cond.methodLink RX0 43 yX0_positionFrom, Cond.instanceMethod yX0_positionFrom, Cond.selects RX0 yX0_positionFrom yX0_positionFrom, Cond.code yX0_positionFrom cX0_positionFrom 3 (some .int), Cond.instanceMethod yX0_removeMarked, Cond.selects RX0 yX0_removeMarked yX0_removeMarked, Cond.code yX0_removeMarked cX0_removeMarked 3 (some .int), Cond.fieldLink RX0 15 "ParrotLog$Log" "keys" "[I", Cond.fieldLink RX0 18 "ParrotLog$Log" "values" "[I", Cond.fieldLink RX0 21 "ParrotLog$Log" "stormNumbers" "[I", Cond.fieldLink RX0 46 "ParrotLog$Log" "droppedInAll" "I"]
def wsX2_trimTo : List Cond := .code yX2_trimTo cX2_trimTo 2 (some .int) :: ((wsX2_trimTo_r1 ++ wsX2_trimTo_r2) ++ wsX20 ++ wsX00 ++ wsX10 ++ (vx_atS RX2 41 "java/lang/IllegalArgumentException" ["java/lang/RuntimeException", "java/lang/Exception"]).filter goodWord)
def wsX2_addShip : List Cond := .code yX2_addShip cX2_addShip 4 (some .int) :: ([.classLink RX2 37 "java/lang/IllegalArgumentException", .initialized "java/lang/IllegalArgumentException", .classLink RX2 54 "java/lang/IllegalStateException", .initialized "java/lang/IllegalStateException", .fieldLink RX2 90 "ParrotLog" "shipCount" "I", .fieldLink RX2 22 "ParrotLog" "fleet" "[LParrotLog$Ship;", .methodLink RX2 82 yX2_checkReachable, .instanceMethod yX2_checkReachable, .selects RX2 yX2_checkReachable yX2_checkReachable, .initialized RX2, .code yX2_checkReachable cX2_checkReachable 2 none, .fieldLink RX2 10 "ParrotLog" "log" "LParrotLog$Log;"] ++ wsX20 ++ wsX10 ++ wsX00 ++ (vx_atS RX2 41 "java/lang/IllegalArgumentException" ["java/lang/RuntimeException", "java/lang/Exception"]).filter goodWord ++ (vx_atS RX2 58 "java/lang/IllegalStateException" ["java/lang/RuntimeException", "java/lang/Exception"]).filter goodWord)
def wsX2_shipNumbered : List Cond := .code yX2_shipNumbered cX2_shipNumbered 2 (some (.object "ParrotLog$Ship")) :: ([.classLink RX2 243 "java/lang/IndexOutOfBoundsException", .initialized "java/lang/IndexOutOfBoundsException", .fieldLink RX2 90 "ParrotLog" "shipCount" "I", .fieldLink RX2 22 "ParrotLog" "fleet" "[LParrotLog$Ship;"] ++ wsX20 ++ (vx_atS RX2 245 "java/lang/IndexOutOfBoundsException" ["java/lang/RuntimeException", "java/lang/Exception"]).filter goodWord)
def wsX2_seek : List Cond := .code yX2_seek cX2_seek 5 (some .int) :: ([.methodLink RX2 101 yX2_shipNumbered, .instanceMethod yX2_shipNumbered, .selects RX2 yX2_shipNumbered yX2_shipNumbered, .initialized RX2, .code yX2_shipNumbered cX2_shipNumbered 2 (some (.object "ParrotLog$Ship")), .classLink RX2 243 "java/lang/IndexOutOfBoundsException", .initialized "java/lang/IndexOutOfBoundsException", .fieldLink RX2 90 "ParrotLog" "shipCount" "I", .fieldLink RX2 22 "ParrotLog" "fleet" "[LParrotLog$Ship;", .methodLink RX2 82 yX2_checkReachable, .instanceMethod yX2_checkReachable, .selects RX2 yX2_checkReachable yX2_checkReachable, .code yX2_checkReachable cX2_checkReachable 2 none, .classLink RX2 37 "java/lang/IllegalArgumentException", .initialized "java/lang/IllegalArgumentException", .fieldLink RX2 10 "ParrotLog" "log" "LParrotLog$Log;"] ++ wsX10 ++ wsX20 ++ wsX00 ++ (vx_atS RX2 245 "java/lang/IndexOutOfBoundsException" ["java/lang/RuntimeException", "java/lang/Exception"]).filter goodWord ++ (vx_atS RX2 41 "java/lang/IllegalArgumentException" ["java/lang/RuntimeException", "java/lang/Exception"]).filter goodWord)
def wsX2_checkHours : List Cond := .code yX2_checkHours cX2_checkHours 1 none :: ([.classLink RX2 37 "java/lang/IllegalArgumentException", .initialized "java/lang/IllegalArgumentException"] ++ (vx_atS RX2 41 "java/lang/IllegalArgumentException" ["java/lang/RuntimeException", "java/lang/Exception"]).filter goodWord)
def wsX2_mostHeard : List Cond := .code yX2_mostHeard cX2_mostHeard 3 (some .int) :: ([.fieldLink RX2 50 "ParrotLog" "stormOn" "Z"] ++ wsX20)
def wsX2_hearNext : List Cond := .code yX2_hearNext cX2_hearNext 6 (some .int) :: ([.fieldLink RX2 10 "ParrotLog" "log" "LParrotLog$Log;", .methodLink RX2 225 Lib.Math.min.name, .static Lib.Math.min.name, .initialized "java/lang/Math", .code Lib.Math.min.name Lib.Math.min.code 2 (some .int), .instanceMethod yX0_positionFrom, .initialized RX0, .selects RX0 yX0_positionFrom yX0_positionFrom, .code yX0_positionFrom cX0_positionFrom 3 (some .int), .fieldLink RX0 28 "ParrotLog$Log" "size" "I", .fieldLink RX0 9 "ParrotLog$Log" "offsets" "[I", .instanceMethod yX1_hear, .initialized RX1, .selects RX1 yX1_hear yX1_hear, .code yX1_hear cX1_hear 4 none, .fieldLink RX1 9 "ParrotLog$Ship" "known" "[I", .fieldLink RX1 15 "ParrotLog$Ship" "offset" "I", .fieldLink RX1 19 "ParrotLog$Ship" "heard" "I"] ++ wsX20 ++ wsX10 ++ wsX00)
def wsX2_passHours_r1 : List Cond := [Cond.fieldLink RX2 90 "ParrotLog" "shipCount" "I", Cond.fieldLink RX2 22 "ParrotLog" "fleet" "[LParrotLog$Ship;", Cond.fieldLink RX2 115 "ParrotLog" "hour" "I", Cond.methodLink RX2 105 yX2_checkHours, Cond.static yX2_checkHours, Cond.initialized RX2, Cond.code yX2_checkHours cX2_checkHours 1 none, Cond.classLink RX2 37 "java/lang/IllegalArgumentException", Cond.initialized "java/lang/IllegalArgumentException", Cond.methodLink RX2 108 yX2_mostHeard, Cond.instanceMethod yX2_mostHeard, Cond.selects RX2 yX2_mostHeard yX2_mostHeard, Cond.code yX2_mostHeard cX2_mostHeard 3 (some .int), Cond.fieldLink RX2 50 "ParrotLog" "stormOn" "Z", Cond.methodLink RX2 111 yX2_hearNext, Cond.instanceMethod yX2_hearNext, Cond.selects RX2 yX2_hearNext yX2_hearNext, Cond.code yX2_hearNext cX2_hearNext 6 (some .int), Cond.fieldLink RX2 10 "ParrotLog" "log" "LParrotLog$Log;", Cond.methodLink RX2 225 Lib.Math.min.name, Cond.static Lib.Math.min.name, Cond.initialized "java/lang/Math", Cond.code Lib.Math.min.name Lib.Math.min.code 2 (some .int), Cond.instanceMethod yX0_positionFrom]
def wsX2_passHours_r2 : List Cond := [Cond.initialized RX0, Cond.selects RX0 yX0_positionFrom yX0_positionFrom, Cond.code yX0_positionFrom cX0_positionFrom 3 (some .int), Cond.fieldLink RX0 28 "ParrotLog$Log" "size" "I", Cond.fieldLink RX0 9 "ParrotLog$Log" "offsets" "[I", Cond.instanceMethod yX1_hear, Cond.initialized RX1, Cond.selects RX1 yX1_hear yX1_hear, Cond.code yX1_hear cX1_hear 4 none, Cond.fieldLink RX1 9 "ParrotLog$Ship" "known" "[I", Cond.fieldLink RX1 15 "ParrotLog$Ship" "offset" "I", Cond.fieldLink RX1 19 "ParrotLog$Ship" "heard" "I"]
def wsX2_passHours : List Cond := .code yX2_passHours cX2_passHours 4 (some .int) :: ((wsX2_passHours_r1 ++ wsX2_passHours_r2) ++ wsX20 ++ wsX10 ++ wsX00 ++ (vx_atS RX2 41 "java/lang/IllegalArgumentException" ["java/lang/RuntimeException", "java/lang/Exception"]).filter goodWord)
def wsX2_hours : List Cond := .code yX2_hours cX2_hours 1 (some .int) :: ([.fieldLink RX2 115 "ParrotLog" "hour" "I"] ++ wsX20)
def wsX2_phrases : List Cond := .code yX2_phrases cX2_phrases 1 (some .int) :: ([.fieldLink RX2 10 "ParrotLog" "log" "LParrotLog$Log;"] ++ wsX20 ++ wsX00)
def wsX2_nextOffset : List Cond := .code yX2_nextOffset cX2_nextOffset 1 (some .int) :: ([.fieldLink RX2 10 "ParrotLog" "log" "LParrotLog$Log;"] ++ wsX20 ++ wsX00)
def wsX2_firstOffset : List Cond := .code yX2_firstOffset cX2_firstOffset 1 (some .int) :: ([.fieldLink RX2 10 "ParrotLog" "log" "LParrotLog$Log;"] ++ wsX20 ++ wsX00)
def wsX2_dropped : List Cond := .code yX2_dropped cX2_dropped 1 (some .int) :: ([.fieldLink RX2 10 "ParrotLog" "log" "LParrotLog$Log;"] ++ wsX20 ++ wsX00)
def wsX2_isKept : List Cond := .code yX2_isKept cX2_isKept 2 (some .boolean) :: ([.fieldLink RX2 10 "ParrotLog" "log" "LParrotLog$Log;", .instanceMethod yX0_positionOf, .initialized RX0, .selects RX0 yX0_positionOf yX0_positionOf, .code yX0_positionOf cX0_positionOf 3 (some .int), .fieldLink RX0 28 "ParrotLog$Log" "size" "I", .fieldLink RX0 9 "ParrotLog$Log" "offsets" "[I", .methodLink RX0 43 yX0_positionFrom, .instanceMethod yX0_positionFrom, .selects RX0 yX0_positionFrom yX0_positionFrom, .code yX0_positionFrom cX0_positionFrom 3 (some .int)] ++ wsX20 ++ wsX00)
def wsX2_keptPosition : List Cond := .code yX2_keptPosition cX2_keptPosition 3 (some .int) :: ([.classLink RX2 243 "java/lang/IndexOutOfBoundsException", .initialized "java/lang/IndexOutOfBoundsException", .fieldLink RX2 10 "ParrotLog" "log" "LParrotLog$Log;", .instanceMethod yX0_positionOf, .initialized RX0, .selects RX0 yX0_positionOf yX0_positionOf, .code yX0_positionOf cX0_positionOf 3 (some .int), .fieldLink RX0 28 "ParrotLog$Log" "size" "I", .fieldLink RX0 9 "ParrotLog$Log" "offsets" "[I", .methodLink RX0 43 yX0_positionFrom, .instanceMethod yX0_positionFrom, .selects RX0 yX0_positionFrom yX0_positionFrom, .code yX0_positionFrom cX0_positionFrom 3 (some .int)] ++ wsX20 ++ wsX00 ++ (vx_atS RX2 245 "java/lang/IndexOutOfBoundsException" ["java/lang/RuntimeException", "java/lang/Exception"]).filter goodWord)
def wsX2_keyAt : List Cond := .code yX2_keyAt cX2_keyAt 2 (some .int) :: ([.fieldLink RX2 10 "ParrotLog" "log" "LParrotLog$Log;", .methodLink RX2 137 yX2_keptPosition, .instanceMethod yX2_keptPosition, .selects RX2 yX2_keptPosition yX2_keptPosition, .initialized RX2, .code yX2_keptPosition cX2_keptPosition 3 (some .int), .classLink RX2 243 "java/lang/IndexOutOfBoundsException", .initialized "java/lang/IndexOutOfBoundsException", .instanceMethod yX0_positionOf, .initialized RX0, .selects RX0 yX0_positionOf yX0_positionOf, .code yX0_positionOf cX0_positionOf 3 (some .int), .fieldLink RX0 28 "ParrotLog$Log" "size" "I", .fieldLink RX0 9 "ParrotLog$Log" "offsets" "[I", .methodLink RX0 43 yX0_positionFrom, .instanceMethod yX0_positionFrom, .selects RX0 yX0_positionFrom yX0_positionFrom, .code yX0_positionFrom cX0_positionFrom 3 (some .int)] ++ wsX20 ++ wsX00 ++ (vx_atS RX2 245 "java/lang/IndexOutOfBoundsException" ["java/lang/RuntimeException", "java/lang/Exception"]).filter goodWord)
def wsX2_valueAt : List Cond := .code yX2_valueAt cX2_valueAt 2 (some .int) :: ([.fieldLink RX2 10 "ParrotLog" "log" "LParrotLog$Log;", .methodLink RX2 137 yX2_keptPosition, .instanceMethod yX2_keptPosition, .selects RX2 yX2_keptPosition yX2_keptPosition, .initialized RX2, .code yX2_keptPosition cX2_keptPosition 3 (some .int), .classLink RX2 243 "java/lang/IndexOutOfBoundsException", .initialized "java/lang/IndexOutOfBoundsException", .instanceMethod yX0_positionOf, .initialized RX0, .selects RX0 yX0_positionOf yX0_positionOf, .code yX0_positionOf cX0_positionOf 3 (some .int), .fieldLink RX0 28 "ParrotLog$Log" "size" "I", .fieldLink RX0 9 "ParrotLog$Log" "offsets" "[I", .methodLink RX0 43 yX0_positionFrom, .instanceMethod yX0_positionFrom, .selects RX0 yX0_positionFrom yX0_positionFrom, .code yX0_positionFrom cX0_positionFrom 3 (some .int)] ++ wsX20 ++ wsX00 ++ (vx_atS RX2 245 "java/lang/IndexOutOfBoundsException" ["java/lang/RuntimeException", "java/lang/Exception"]).filter goodWord)
def wsX2_stormAt : List Cond := .code yX2_stormAt cX2_stormAt 2 (some .int) :: ([.fieldLink RX2 10 "ParrotLog" "log" "LParrotLog$Log;", .methodLink RX2 137 yX2_keptPosition, .instanceMethod yX2_keptPosition, .selects RX2 yX2_keptPosition yX2_keptPosition, .initialized RX2, .code yX2_keptPosition cX2_keptPosition 3 (some .int), .classLink RX2 243 "java/lang/IndexOutOfBoundsException", .initialized "java/lang/IndexOutOfBoundsException", .instanceMethod yX0_positionOf, .initialized RX0, .selects RX0 yX0_positionOf yX0_positionOf, .code yX0_positionOf cX0_positionOf 3 (some .int), .fieldLink RX0 28 "ParrotLog$Log" "size" "I", .fieldLink RX0 9 "ParrotLog$Log" "offsets" "[I", .methodLink RX0 43 yX0_positionFrom, .instanceMethod yX0_positionFrom, .selects RX0 yX0_positionFrom yX0_positionFrom, .code yX0_positionFrom cX0_positionFrom 3 (some .int)] ++ wsX20 ++ wsX00 ++ (vx_atS RX2 245 "java/lang/IndexOutOfBoundsException" ["java/lang/RuntimeException", "java/lang/Exception"]).filter goodWord)
def wsX2_checkKey : List Cond := .code yX2_checkKey cX2_checkKey 1 none :: ([.classLink RX2 243 "java/lang/IndexOutOfBoundsException", .initialized "java/lang/IndexOutOfBoundsException", .methodLink RX2 33 yX2_isKey, .static yX2_isKey, .initialized RX2, .code yX2_isKey cX2_isKey 1 (some .boolean)] ++ (vx_atS RX2 245 "java/lang/IndexOutOfBoundsException" ["java/lang/RuntimeException", "java/lang/Exception"]).filter goodWord)
def wsX2_latestOf : List Cond := .code yX2_latestOf cX2_latestOf 2 (some .int) :: ([.fieldLink RX2 10 "ParrotLog" "log" "LParrotLog$Log;", .methodLink RX2 146 yX2_checkKey, .static yX2_checkKey, .initialized RX2, .code yX2_checkKey cX2_checkKey 1 none, .classLink RX2 243 "java/lang/IndexOutOfBoundsException", .initialized "java/lang/IndexOutOfBoundsException", .methodLink RX2 33 yX2_isKey, .static yX2_isKey, .code yX2_isKey cX2_isKey 1 (some .boolean), .instanceMethod yX0_latestOffset, .initialized RX0, .selects RX0 yX0_latestOffset yX0_latestOffset, .code yX0_latestOffset cX0_latestOffset 3 (some .int), .fieldLink RX0 28 "ParrotLog$Log" "size" "I", .fieldLink RX0 9 "ParrotLog$Log" "offsets" "[I", .methodLink RX0 35 yX0_latestPosition, .instanceMethod yX0_latestPosition, .selects RX0 yX0_latestPosition yX0_latestPosition, .code yX0_latestPosition cX0_latestPosition 5 (some .int), .fieldLink RX0 15 "ParrotLog$Log" "keys" "[I"] ++ wsX20 ++ wsX00 ++ (vx_atS RX2 245 "java/lang/IndexOutOfBoundsException" ["java/lang/RuntimeException", "java/lang/Exception"]).filter goodWord)
def wsX2_valueOf : List Cond := .code yX2_valueOf cX2_valueOf 2 (some .int) :: ([.fieldLink RX2 10 "ParrotLog" "log" "LParrotLog$Log;", .methodLink RX2 146 yX2_checkKey, .static yX2_checkKey, .initialized RX2, .code yX2_checkKey cX2_checkKey 1 none, .classLink RX2 243 "java/lang/IndexOutOfBoundsException", .initialized "java/lang/IndexOutOfBoundsException", .methodLink RX2 33 yX2_isKey, .static yX2_isKey, .code yX2_isKey cX2_isKey 1 (some .boolean), .instanceMethod yX0_latestValue, .initialized RX0, .selects RX0 yX0_latestValue yX0_latestValue, .code yX0_latestValue cX0_latestValue 3 (some .int), .fieldLink RX0 28 "ParrotLog$Log" "size" "I", .fieldLink RX0 18 "ParrotLog$Log" "values" "[I", .methodLink RX0 35 yX0_latestPosition, .instanceMethod yX0_latestPosition, .selects RX0 yX0_latestPosition yX0_latestPosition, .code yX0_latestPosition cX0_latestPosition 5 (some .int), .fieldLink RX0 15 "ParrotLog$Log" "keys" "[I"] ++ wsX20 ++ wsX00 ++ (vx_atS RX2 245 "java/lang/IndexOutOfBoundsException" ["java/lang/RuntimeException", "java/lang/Exception"]).filter goodWord)
def wsX2_countOf : List Cond := .code yX2_countOf cX2_countOf 2 (some .int) :: ([.fieldLink RX2 10 "ParrotLog" "log" "LParrotLog$Log;", .methodLink RX2 146 yX2_checkKey, .static yX2_checkKey, .initialized RX2, .code yX2_checkKey cX2_checkKey 1 none, .classLink RX2 243 "java/lang/IndexOutOfBoundsException", .initialized "java/lang/IndexOutOfBoundsException", .methodLink RX2 33 yX2_isKey, .static yX2_isKey, .code yX2_isKey cX2_isKey 1 (some .boolean), .instanceMethod yX0_countKey, .initialized RX0, .selects RX0 yX0_countKey yX0_countKey, .code yX0_countKey cX0_countKey 2 (some .int), .fieldLink RX0 15 "ParrotLog$Log" "keys" "[I", .methodLink RX0 49 yX0_countEqual, .instanceMethod yX0_countEqual, .selects RX0 yX0_countEqual yX0_countEqual, .code yX0_countEqual cX0_countEqual 5 (some .int), .fieldLink RX0 28 "ParrotLog$Log" "size" "I"] ++ wsX20 ++ wsX00 ++ (vx_atS RX2 245 "java/lang/IndexOutOfBoundsException" ["java/lang/RuntimeException", "java/lang/Exception"]).filter goodWord)
def wsX2_storms : List Cond := .code yX2_storms cX2_storms 1 (some .int) :: ([.fieldLink RX2 59 "ParrotLog" "stormCount" "I"] ++ wsX20)
def wsX2_isStormy : List Cond := .code yX2_isStormy cX2_isStormy 1 (some .boolean) :: ([.fieldLink RX2 50 "ParrotLog" "stormOn" "Z"] ++ wsX20)
def wsX2_saidIn : List Cond := .code yX2_saidIn cX2_saidIn 2 (some .int) :: ([.fieldLink RX2 16 "ParrotLog" "saidInStorm" "[I", .methodLink RX2 67 yX2_checkStorm, .instanceMethod yX2_checkStorm, .selects RX2 yX2_checkStorm yX2_checkStorm, .initialized RX2, .code yX2_checkStorm cX2_checkStorm 2 none, .classLink RX2 243 "java/lang/IndexOutOfBoundsException", .initialized "java/lang/IndexOutOfBoundsException", .fieldLink RX2 59 "ParrotLog" "stormCount" "I"] ++ wsX20 ++ (vx_atS RX2 245 "java/lang/IndexOutOfBoundsException" ["java/lang/RuntimeException", "java/lang/Exception"]).filter goodWord)
def wsX2_keptOf : List Cond := .code yX2_keptOf cX2_keptOf 2 (some .int) :: ([.fieldLink RX2 10 "ParrotLog" "log" "LParrotLog$Log;", .methodLink RX2 67 yX2_checkStorm, .instanceMethod yX2_checkStorm, .selects RX2 yX2_checkStorm yX2_checkStorm, .initialized RX2, .code yX2_checkStorm cX2_checkStorm 2 none, .classLink RX2 243 "java/lang/IndexOutOfBoundsException", .initialized "java/lang/IndexOutOfBoundsException", .fieldLink RX2 59 "ParrotLog" "stormCount" "I", .instanceMethod yX0_countStorm, .initialized RX0, .selects RX0 yX0_countStorm yX0_countStorm, .code yX0_countStorm cX0_countStorm 2 (some .int), .fieldLink RX0 21 "ParrotLog$Log" "stormNumbers" "[I", .methodLink RX0 49 yX0_countEqual, .instanceMethod yX0_countEqual, .selects RX0 yX0_countEqual yX0_countEqual, .code yX0_countEqual cX0_countEqual 5 (some .int), .fieldLink RX0 28 "ParrotLog$Log" "size" "I"] ++ wsX20 ++ wsX00 ++ (vx_atS RX2 245 "java/lang/IndexOutOfBoundsException" ["java/lang/RuntimeException", "java/lang/Exception"]).filter goodWord)
def wsX2_ships : List Cond := .code yX2_ships cX2_ships 1 (some .int) :: ([.fieldLink RX2 90 "ParrotLog" "shipCount" "I"] ++ wsX20)
def wsX2_offsetOf : List Cond := .code yX2_offsetOf cX2_offsetOf 2 (some .int) :: ([.methodLink RX2 101 yX2_shipNumbered, .instanceMethod yX2_shipNumbered, .selects RX2 yX2_shipNumbered yX2_shipNumbered, .initialized RX2, .code yX2_shipNumbered cX2_shipNumbered 2 (some (.object "ParrotLog$Ship")), .classLink RX2 243 "java/lang/IndexOutOfBoundsException", .initialized "java/lang/IndexOutOfBoundsException", .fieldLink RX2 90 "ParrotLog" "shipCount" "I", .fieldLink RX2 22 "ParrotLog" "fleet" "[LParrotLog$Ship;"] ++ wsX10 ++ wsX20 ++ (vx_atS RX2 245 "java/lang/IndexOutOfBoundsException" ["java/lang/RuntimeException", "java/lang/Exception"]).filter goodWord)
def wsX2_lag : List Cond := .code yX2_lag cX2_lag 2 (some .int) :: ([.fieldLink RX2 10 "ParrotLog" "log" "LParrotLog$Log;", .instanceMethod yX0_positionFrom, .initialized RX0, .selects RX0 yX0_positionFrom yX0_positionFrom, .code yX0_positionFrom cX0_positionFrom 3 (some .int), .fieldLink RX0 28 "ParrotLog$Log" "size" "I", .fieldLink RX0 9 "ParrotLog$Log" "offsets" "[I"] ++ wsX20 ++ wsX00 ++ wsX10)
def wsX2_lagOf : List Cond := .code yX2_lagOf cX2_lagOf 2 (some .int) :: ([.methodLink RX2 101 yX2_shipNumbered, .instanceMethod yX2_shipNumbered, .selects RX2 yX2_shipNumbered yX2_shipNumbered, .initialized RX2, .code yX2_shipNumbered cX2_shipNumbered 2 (some (.object "ParrotLog$Ship")), .classLink RX2 243 "java/lang/IndexOutOfBoundsException", .initialized "java/lang/IndexOutOfBoundsException", .fieldLink RX2 90 "ParrotLog" "shipCount" "I", .fieldLink RX2 22 "ParrotLog" "fleet" "[LParrotLog$Ship;", .methodLink RX2 161 yX2_lag, .instanceMethod yX2_lag, .selects RX2 yX2_lag yX2_lag, .code yX2_lag cX2_lag 2 (some .int), .fieldLink RX2 10 "ParrotLog" "log" "LParrotLog$Log;", .instanceMethod yX0_positionFrom, .initialized RX0, .selects RX0 yX0_positionFrom yX0_positionFrom, .code yX0_positionFrom cX0_positionFrom 3 (some .int), .fieldLink RX0 28 "ParrotLog$Log" "size" "I", .fieldLink RX0 9 "ParrotLog$Log" "offsets" "[I"] ++ wsX20 ++ wsX00 ++ wsX10 ++ (vx_atS RX2 245 "java/lang/IndexOutOfBoundsException" ["java/lang/RuntimeException", "java/lang/Exception"]).filter goodWord)
def wsX2_heardBy : List Cond := .code yX2_heardBy cX2_heardBy 2 (some .int) :: ([.methodLink RX2 101 yX2_shipNumbered, .instanceMethod yX2_shipNumbered, .selects RX2 yX2_shipNumbered yX2_shipNumbered, .initialized RX2, .code yX2_shipNumbered cX2_shipNumbered 2 (some (.object "ParrotLog$Ship")), .classLink RX2 243 "java/lang/IndexOutOfBoundsException", .initialized "java/lang/IndexOutOfBoundsException", .fieldLink RX2 90 "ParrotLog" "shipCount" "I", .fieldLink RX2 22 "ParrotLog" "fleet" "[LParrotLog$Ship;"] ++ wsX10 ++ wsX20 ++ (vx_atS RX2 245 "java/lang/IndexOutOfBoundsException" ["java/lang/RuntimeException", "java/lang/Exception"]).filter goodWord)
def wsX2_missedBy : List Cond := .code yX2_missedBy cX2_missedBy 2 (some .int) :: ([.methodLink RX2 101 yX2_shipNumbered, .instanceMethod yX2_shipNumbered, .selects RX2 yX2_shipNumbered yX2_shipNumbered, .initialized RX2, .code yX2_shipNumbered cX2_shipNumbered 2 (some (.object "ParrotLog$Ship")), .classLink RX2 243 "java/lang/IndexOutOfBoundsException", .initialized "java/lang/IndexOutOfBoundsException", .fieldLink RX2 90 "ParrotLog" "shipCount" "I", .fieldLink RX2 22 "ParrotLog" "fleet" "[LParrotLog$Ship;"] ++ wsX10 ++ wsX20 ++ (vx_atS RX2 245 "java/lang/IndexOutOfBoundsException" ["java/lang/RuntimeException", "java/lang/Exception"]).filter goodWord)
def wsX2_knownBy : List Cond := .code yX2_knownBy cX2_knownBy 4 (some .int) :: ([.methodLink RX2 101 yX2_shipNumbered, .instanceMethod yX2_shipNumbered, .selects RX2 yX2_shipNumbered yX2_shipNumbered, .initialized RX2, .code yX2_shipNumbered cX2_shipNumbered 2 (some (.object "ParrotLog$Ship")), .classLink RX2 243 "java/lang/IndexOutOfBoundsException", .initialized "java/lang/IndexOutOfBoundsException", .fieldLink RX2 90 "ParrotLog" "shipCount" "I", .fieldLink RX2 22 "ParrotLog" "fleet" "[LParrotLog$Ship;", .methodLink RX2 146 yX2_checkKey, .static yX2_checkKey, .code yX2_checkKey cX2_checkKey 1 none, .methodLink RX2 33 yX2_isKey, .static yX2_isKey, .code yX2_isKey cX2_isKey 1 (some .boolean)] ++ wsX10 ++ wsX20 ++ (vx_atS RX2 245 "java/lang/IndexOutOfBoundsException" ["java/lang/RuntimeException", "java/lang/Exception"]).filter goodWord)
def wsX2_errorsAfter : List Cond := .code yX2_errorsAfter cX2_errorsAfter 9 (some .int) :: ([.fieldLink RX2 10 "ParrotLog" "log" "LParrotLog$Log;", .methodLink RX2 225 Lib.Math.min.name, .static Lib.Math.min.name, .initialized "java/lang/Math", .code Lib.Math.min.name Lib.Math.min.code 2 (some .int), .instanceMethod yX0_positionFrom, .initialized RX0, .selects RX0 yX0_positionFrom yX0_positionFrom, .code yX0_positionFrom cX0_positionFrom 3 (some .int), .fieldLink RX0 28 "ParrotLog$Log" "size" "I", .fieldLink RX0 9 "ParrotLog$Log" "offsets" "[I", .instanceMethod yX0_latestPosition, .selects RX0 yX0_latestPosition yX0_latestPosition, .code yX0_latestPosition cX0_latestPosition 5 (some .int), .fieldLink RX0 15 "ParrotLog$Log" "keys" "[I", .instanceMethod yX0_latestValue, .selects RX0 yX0_latestValue yX0_latestValue, .code yX0_latestValue cX0_latestValue 3 (some .int), .fieldLink RX0 18 "ParrotLog$Log" "values" "[I", .methodLink RX0 35 yX0_latestPosition] ++ wsX20 ++ wsX10 ++ wsX00)
def wsX2_errorsOf_r1 : List Cond := [Cond.methodLink RX2 101 yX2_shipNumbered, Cond.instanceMethod yX2_shipNumbered, Cond.selects RX2 yX2_shipNumbered yX2_shipNumbered, Cond.initialized RX2, Cond.code yX2_shipNumbered cX2_shipNumbered 2 (some (.object "ParrotLog$Ship")), Cond.classLink RX2 243 "java/lang/IndexOutOfBoundsException", Cond.initialized "java/lang/IndexOutOfBoundsException", Cond.fieldLink RX2 90 "ParrotLog" "shipCount" "I", Cond.fieldLink RX2 22 "ParrotLog" "fleet" "[LParrotLog$Ship;", Cond.methodLink RX2 174 yX2_errorsAfter, Cond.instanceMethod yX2_errorsAfter, Cond.selects RX2 yX2_errorsAfter yX2_errorsAfter, Cond.code yX2_errorsAfter cX2_errorsAfter 9 (some .int), Cond.fieldLink RX2 10 "ParrotLog" "log" "LParrotLog$Log;", Cond.methodLink RX2 225 Lib.Math.min.name, Cond.static Lib.Math.min.name, Cond.initialized "java/lang/Math", Cond.code Lib.Math.min.name Lib.Math.min.code 2 (some .int), Cond.instanceMethod yX0_positionFrom, Cond.initialized RX0, Cond.selects RX0 yX0_positionFrom yX0_positionFrom, Cond.code yX0_positionFrom cX0_positionFrom 3 (some .int), Cond.fieldLink RX0 28 "ParrotLog$Log" "size" "I", Cond.fieldLink RX0 9 "ParrotLog$Log" "offsets" "[I"]
def wsX2_errorsOf_r2 : List Cond := [Cond.instanceMethod yX0_latestPosition, Cond.selects RX0 yX0_latestPosition yX0_latestPosition, Cond.code yX0_latestPosition cX0_latestPosition 5 (some .int), Cond.fieldLink RX0 15 "ParrotLog$Log" "keys" "[I", Cond.instanceMethod yX0_latestValue, Cond.selects RX0 yX0_latestValue yX0_latestValue, Cond.code yX0_latestValue cX0_latestValue 3 (some .int), Cond.fieldLink RX0 18 "ParrotLog$Log" "values" "[I", Cond.methodLink RX0 35 yX0_latestPosition]
def wsX2_errorsOf : List Cond := .code yX2_errorsOf cX2_errorsOf 2 (some .int) :: ((wsX2_errorsOf_r1 ++ wsX2_errorsOf_r2) ++ wsX20 ++ wsX10 ++ wsX00 ++ (vx_atS RX2 245 "java/lang/IndexOutOfBoundsException" ["java/lang/RuntimeException", "java/lang/Exception"]).filter goodWord)
def wsX2_farthestBehind : List Cond := .code yX2_farthestBehind cX2_farthestBehind 5 (some .int) :: ([.fieldLink RX2 90 "ParrotLog" "shipCount" "I", .fieldLink RX2 22 "ParrotLog" "fleet" "[LParrotLog$Ship;", .methodLink RX2 161 yX2_lag, .instanceMethod yX2_lag, .selects RX2 yX2_lag yX2_lag, .initialized RX2, .code yX2_lag cX2_lag 2 (some .int), .fieldLink RX2 10 "ParrotLog" "log" "LParrotLog$Log;", .instanceMethod yX0_positionFrom, .initialized RX0, .selects RX0 yX0_positionFrom yX0_positionFrom, .code yX0_positionFrom cX0_positionFrom 3 (some .int), .fieldLink RX0 28 "ParrotLog$Log" "size" "I", .fieldLink RX0 9 "ParrotLog$Log" "offsets" "[I"] ++ wsX20 ++ wsX00 ++ wsX10)
def wsX2_wouldCompact_r1 : List Cond := [Cond.fieldLink RX2 10 "ParrotLog" "log" "LParrotLog$Log;", Cond.methodLink RX2 75 yX2_markCompacted, Cond.instanceMethod yX2_markCompacted, Cond.selects RX2 yX2_markCompacted yX2_markCompacted, Cond.initialized RX2, Cond.code yX2_markCompacted cX2_markCompacted 1 none, Cond.methodLink RX2 220 yX2_leastShipOffset, Cond.instanceMethod yX2_leastShipOffset, Cond.selects RX2 yX2_leastShipOffset yX2_leastShipOffset, Cond.code yX2_leastShipOffset cX2_leastShipOffset 3 (some .int), Cond.fieldLink RX2 90 "ParrotLog" "shipCount" "I", Cond.fieldLink RX2 22 "ParrotLog" "fleet" "[LParrotLog$Ship;", Cond.methodLink RX2 225 Lib.Math.min.name, Cond.static Lib.Math.min.name, Cond.initialized "java/lang/Math", Cond.code Lib.Math.min.name Lib.Math.min.code 2 (some .int), Cond.instanceMethod yX0_markCompacted, Cond.initialized RX0, Cond.selects RX0 yX0_markCompacted yX0_markCompacted, Cond.code yX0_markCompacted cX0_markCompacted 5 none, Cond.fieldLink RX0 28 "ParrotLog$Log" "size" "I", Cond.fieldLink RX0 15 "ParrotLog$Log" "keys" "[I", Cond.fieldLink RX0 18 "ParrotLog$Log" "values" "[I", Cond.fieldLink RX0 9 "ParrotLog$Log" "offsets" "[I"]
def wsX2_wouldCompact_r2 : List Cond := [Cond.fieldLink RX0 24 "ParrotLog$Log" "marked" "[Z", Cond.methodLink RX0 35 yX0_latestPosition, Cond.instanceMethod yX0_latestPosition, Cond.selects RX0 yX0_latestPosition yX0_latestPosition, Cond.code yX0_latestPosition cX0_latestPosition 5 (some .int), Cond.instanceMethod yX0_countMarked, Cond.selects RX0 yX0_countMarked yX0_countMarked, Cond.code yX0_countMarked cX0_countMarked 1 (some .int), Cond.methodLink RX0 39 yX0_countMarkedFrom, Cond.instanceMethod yX0_countMarkedFrom, Cond.selects RX0 yX0_countMarkedFrom yX0_countMarkedFrom, Cond.code yX0_countMarkedFrom cX0_countMarkedFrom 4 (some .int), Cond.methodLink RX0 43 yX0_positionFrom, Cond.instanceMethod yX0_positionFrom, Cond.selects RX0 yX0_positionFrom yX0_positionFrom, Cond.code yX0_positionFrom cX0_positionFrom 3 (some .int)]
def wsX2_wouldCompact : List Cond := .code yX2_wouldCompact cX2_wouldCompact 1 (some .int) :: ((wsX2_wouldCompact_r1 ++ wsX2_wouldCompact_r2) ++ wsX20 ++ wsX00 ++ wsX10)
def wsX2_wouldMiss_r1 : List Cond := [Cond.fieldLink RX2 10 "ParrotLog" "log" "LParrotLog$Log;", Cond.methodLink RX2 101 yX2_shipNumbered, Cond.instanceMethod yX2_shipNumbered, Cond.selects RX2 yX2_shipNumbered yX2_shipNumbered, Cond.initialized RX2, Cond.code yX2_shipNumbered cX2_shipNumbered 2 (some (.object "ParrotLog$Ship")), Cond.classLink RX2 243 "java/lang/IndexOutOfBoundsException", Cond.initialized "java/lang/IndexOutOfBoundsException", Cond.fieldLink RX2 90 "ParrotLog" "shipCount" "I", Cond.fieldLink RX2 22 "ParrotLog" "fleet" "[LParrotLog$Ship;", Cond.methodLink RX2 75 yX2_markCompacted, Cond.instanceMethod yX2_markCompacted, Cond.selects RX2 yX2_markCompacted yX2_markCompacted, Cond.code yX2_markCompacted cX2_markCompacted 1 none, Cond.methodLink RX2 220 yX2_leastShipOffset, Cond.instanceMethod yX2_leastShipOffset, Cond.selects RX2 yX2_leastShipOffset yX2_leastShipOffset, Cond.code yX2_leastShipOffset cX2_leastShipOffset 3 (some .int), Cond.methodLink RX2 225 Lib.Math.min.name, Cond.static Lib.Math.min.name, Cond.initialized "java/lang/Math", Cond.code Lib.Math.min.name Lib.Math.min.code 2 (some .int), Cond.instanceMethod yX0_markCompacted, Cond.initialized RX0]
def wsX2_wouldMiss_r2 : List Cond := [Cond.selects RX0 yX0_markCompacted yX0_markCompacted, Cond.code yX0_markCompacted cX0_markCompacted 5 none, Cond.fieldLink RX0 28 "ParrotLog$Log" "size" "I", Cond.fieldLink RX0 15 "ParrotLog$Log" "keys" "[I", Cond.fieldLink RX0 18 "ParrotLog$Log" "values" "[I", Cond.fieldLink RX0 9 "ParrotLog$Log" "offsets" "[I", Cond.fieldLink RX0 24 "ParrotLog$Log" "marked" "[Z", Cond.methodLink RX0 35 yX0_latestPosition, Cond.instanceMethod yX0_latestPosition, Cond.selects RX0 yX0_latestPosition yX0_latestPosition, Cond.code yX0_latestPosition cX0_latestPosition 5 (some .int), Cond.instanceMethod yX0_countMarkedFrom, Cond.selects RX0 yX0_countMarkedFrom yX0_countMarkedFrom, Cond.code yX0_countMarkedFrom cX0_countMarkedFrom 4 (some .int), Cond.methodLink RX0 43 yX0_positionFrom, Cond.instanceMethod yX0_positionFrom, Cond.selects RX0 yX0_positionFrom yX0_positionFrom, Cond.code yX0_positionFrom cX0_positionFrom 3 (some .int)]
def wsX2_wouldMiss : List Cond := .code yX2_wouldMiss cX2_wouldMiss 3 (some .int) :: ((wsX2_wouldMiss_r1 ++ wsX2_wouldMiss_r2) ++ wsX20 ++ wsX10 ++ wsX00 ++ (vx_atS RX2 245 "java/lang/IndexOutOfBoundsException" ["java/lang/RuntimeException", "java/lang/Exception"]).filter goodWord)
def wsX2_meanLag : List Cond := .code yX2_meanLag cX2_meanLag 3 (some .double) :: ([.fieldLink RX2 90 "ParrotLog" "shipCount" "I", .fieldLink RX2 22 "ParrotLog" "fleet" "[LParrotLog$Ship;", .methodLink RX2 161 yX2_lag, .instanceMethod yX2_lag, .selects RX2 yX2_lag yX2_lag, .initialized RX2, .code yX2_lag cX2_lag 2 (some .int), .fieldLink RX2 10 "ParrotLog" "log" "LParrotLog$Log;", .instanceMethod yX0_positionFrom, .initialized RX0, .selects RX0 yX0_positionFrom yX0_positionFrom, .code yX0_positionFrom cX0_positionFrom 3 (some .int), .fieldLink RX0 28 "ParrotLog$Log" "size" "I", .fieldLink RX0 9 "ParrotLog$Log" "offsets" "[I"] ++ wsX20 ++ wsX00 ++ wsX10)
def wsX3_init : List Cond := .code yX3_init cX3_init 1 none :: ([.methodLink RX3 1 objectInit, .instanceMethod objectInit, .code objectInit ⟨#[0xb1]⟩ 1 none, .classLink RX3 7 "[I", .fieldLink RX3 9 "ParrotLogLaw$Sim" "log" "[[I", .arrayClass .int, .fieldLink RX3 15 "ParrotLogLaw$Sim" "said" "[I", .fieldLink RX3 18 "ParrotLogLaw$Sim" "ships" "[[I"] ++ wsX30)
def wsX3_with : List Cond := .code yX3_with cX3_with 4 (some (.array (.array .int))) :: ([.classLink RX3 7 "[I"])
def wsX3_dropAt : List Cond := .code yX3_dropAt cX3_dropAt 7 none :: ([.fieldLink RX3 9 "ParrotLogLaw$Sim" "log" "[[I", .classLink RX3 7 "[I", .fieldLink RX3 18 "ParrotLogLaw$Sim" "ships" "[[I", .fieldLink RX3 21 "ParrotLogLaw$Sim" "dropped" "I"] ++ wsX30)
def wsX3_say : List Cond := .code yX3_say cX3_say 3 (some .int) :: ([.fieldLink RX3 9 "ParrotLogLaw$Sim" "log" "[[I", .arrayClass .int, .fieldLink RX3 29 "ParrotLogLaw$Sim" "next" "I", .fieldLink RX3 32 "ParrotLogLaw$Sim" "isOn" "Z", .fieldLink RX3 15 "ParrotLogLaw$Sim" "said" "[I", .methodLink RX3 25 yX3_dropAt, .instanceMethod yX3_dropAt, .selects RX3 yX3_dropAt yX3_dropAt, .initialized RX3, .code yX3_dropAt cX3_dropAt 7 none, .classLink RX3 7 "[I", .fieldLink RX3 18 "ParrotLogLaw$Sim" "ships" "[[I", .fieldLink RX3 21 "ParrotLogLaw$Sim" "dropped" "I", .methodLink RX3 36 yX3_with, .static yX3_with, .code yX3_with cX3_with 4 (some (.array (.array .int)))] ++ wsX30)
def wsX3_compact : List Cond := .code yX3_compact cX3_compact 8 (some .int) :: ([.fieldLink RX3 9 "ParrotLogLaw$Sim" "log" "[[I", .fieldLink RX3 18 "ParrotLogLaw$Sim" "ships" "[[I", .methodLink RX3 25 yX3_dropAt, .instanceMethod yX3_dropAt, .selects RX3 yX3_dropAt yX3_dropAt, .initialized RX3, .code yX3_dropAt cX3_dropAt 7 none, .classLink RX3 7 "[I", .fieldLink RX3 21 "ParrotLogLaw$Sim" "dropped" "I"] ++ wsX30)
def wsX3_pass : List Cond := .code yX3_pass cX3_pass 13 (some .int) :: ([.fieldLink RX3 40 "ParrotLogLaw$Sim" "hours" "I", .fieldLink RX3 32 "ParrotLogLaw$Sim" "isOn" "Z", .fieldLink RX3 18 "ParrotLogLaw$Sim" "ships" "[[I", .fieldLink RX3 9 "ParrotLogLaw$Sim" "log" "[[I"] ++ wsX30)
def wsX3_lag : List Cond := .code yX3_lag cX3_lag 7 (some .int) :: ([.fieldLink RX3 9 "ParrotLogLaw$Sim" "log" "[[I"] ++ wsX30)
def wsX3_value : List Cond := .code yX3_value cX3_value 7 (some .int) :: ([.fieldLink RX3 9 "ParrotLogLaw$Sim" "log" "[[I"] ++ wsX30)
def wsX3_errors : List Cond := .code yX3_errors cX3_errors 4 (some .int) :: ([.methodLink RX3 43 yX3_value, .instanceMethod yX3_value, .selects RX3 yX3_value yX3_value, .initialized RX3, .code yX3_value cX3_value 7 (some .int), .fieldLink RX3 9 "ParrotLogLaw$Sim" "log" "[[I"] ++ wsX30)
def wsX3_isSame_r1 : List Cond := [Cond.fieldLink RX3 9 "ParrotLogLaw$Sim" "log" "[[I", Cond.fieldLink RX3 40 "ParrotLogLaw$Sim" "hours" "I", Cond.fieldLink RX3 29 "ParrotLogLaw$Sim" "next" "I", Cond.fieldLink RX3 21 "ParrotLogLaw$Sim" "dropped" "I", Cond.fieldLink RX3 32 "ParrotLogLaw$Sim" "isOn" "Z", Cond.fieldLink RX3 15 "ParrotLogLaw$Sim" "said" "[I", Cond.fieldLink RX3 18 "ParrotLogLaw$Sim" "ships" "[[I", Cond.arrayClass .int, Cond.methodLink RX3 52 yX2_hours, Cond.instanceMethod yX2_hours, Cond.selects RX2 yX2_hours yX2_hours, Cond.initialized RX2, Cond.code yX2_hours cX2_hours 1 (some .int), Cond.fieldLink RX2 115 "ParrotLog" "hour" "I", Cond.methodLink RX3 57 yX2_phrases, Cond.instanceMethod yX2_phrases, Cond.selects RX2 yX2_phrases yX2_phrases, Cond.code yX2_phrases cX2_phrases 1 (some .int), Cond.fieldLink RX2 10 "ParrotLog" "log" "LParrotLog$Log;", Cond.methodLink RX3 60 yX2_nextOffset, Cond.instanceMethod yX2_nextOffset, Cond.selects RX2 yX2_nextOffset yX2_nextOffset, Cond.code yX2_nextOffset cX2_nextOffset 1 (some .int), Cond.methodLink RX3 63 yX2_firstOffset]
def wsX3_isSame_r2 : List Cond := [Cond.instanceMethod yX2_firstOffset, Cond.selects RX2 yX2_firstOffset yX2_firstOffset, Cond.code yX2_firstOffset cX2_firstOffset 1 (some .int), Cond.methodLink RX3 66 yX2_dropped, Cond.instanceMethod yX2_dropped, Cond.selects RX2 yX2_dropped yX2_dropped, Cond.code yX2_dropped cX2_dropped 1 (some .int), Cond.methodLink RX3 68 yX2_isStormy, Cond.instanceMethod yX2_isStormy, Cond.selects RX2 yX2_isStormy yX2_isStormy, Cond.code yX2_isStormy cX2_isStormy 1 (some .boolean), Cond.fieldLink RX2 50 "ParrotLog" "stormOn" "Z", Cond.methodLink RX3 72 yX2_storms, Cond.instanceMethod yX2_storms, Cond.selects RX2 yX2_storms yX2_storms, Cond.code yX2_storms cX2_storms 1 (some .int), Cond.fieldLink RX2 59 "ParrotLog" "stormCount" "I", Cond.methodLink RX3 75 yX2_ships, Cond.instanceMethod yX2_ships, Cond.selects RX2 yX2_ships yX2_ships, Cond.code yX2_ships cX2_ships 1 (some .int), Cond.fieldLink RX2 90 "ParrotLog" "shipCount" "I", Cond.methodLink RX3 77 yX2_isKept, Cond.instanceMethod yX2_isKept]
def wsX3_isSame_r3 : List Cond := [Cond.selects RX2 yX2_isKept yX2_isKept, Cond.code yX2_isKept cX2_isKept 2 (some .boolean), Cond.instanceMethod yX0_positionOf, Cond.initialized RX0, Cond.selects RX0 yX0_positionOf yX0_positionOf, Cond.code yX0_positionOf cX0_positionOf 3 (some .int), Cond.fieldLink RX0 28 "ParrotLog$Log" "size" "I", Cond.fieldLink RX0 9 "ParrotLog$Log" "offsets" "[I", Cond.methodLink RX0 43 yX0_positionFrom, Cond.instanceMethod yX0_positionFrom, Cond.selects RX0 yX0_positionFrom yX0_positionFrom, Cond.code yX0_positionFrom cX0_positionFrom 3 (some .int), Cond.methodLink RX3 81 yX2_keyAt, Cond.instanceMethod yX2_keyAt, Cond.selects RX2 yX2_keyAt yX2_keyAt, Cond.code yX2_keyAt cX2_keyAt 2 (some .int), Cond.methodLink RX2 137 yX2_keptPosition, Cond.instanceMethod yX2_keptPosition, Cond.selects RX2 yX2_keptPosition yX2_keptPosition, Cond.code yX2_keptPosition cX2_keptPosition 3 (some .int), Cond.classLink RX2 243 "java/lang/IndexOutOfBoundsException", Cond.initialized "java/lang/IndexOutOfBoundsException", Cond.methodLink RX3 84 yX2_valueAt, Cond.instanceMethod yX2_valueAt]
def wsX3_isSame_r4 : List Cond := [Cond.selects RX2 yX2_valueAt yX2_valueAt, Cond.code yX2_valueAt cX2_valueAt 2 (some .int), Cond.methodLink RX3 87 yX2_stormAt, Cond.instanceMethod yX2_stormAt, Cond.selects RX2 yX2_stormAt yX2_stormAt, Cond.code yX2_stormAt cX2_stormAt 2 (some .int), Cond.methodLink RX3 90 yX2_latestOf, Cond.instanceMethod yX2_latestOf, Cond.selects RX2 yX2_latestOf yX2_latestOf, Cond.code yX2_latestOf cX2_latestOf 2 (some .int), Cond.methodLink RX2 146 yX2_checkKey, Cond.static yX2_checkKey, Cond.code yX2_checkKey cX2_checkKey 1 none, Cond.methodLink RX2 33 yX2_isKey, Cond.static yX2_isKey, Cond.code yX2_isKey cX2_isKey 1 (some .boolean), Cond.instanceMethod yX0_latestOffset, Cond.selects RX0 yX0_latestOffset yX0_latestOffset, Cond.code yX0_latestOffset cX0_latestOffset 3 (some .int), Cond.methodLink RX0 35 yX0_latestPosition, Cond.instanceMethod yX0_latestPosition, Cond.selects RX0 yX0_latestPosition yX0_latestPosition, Cond.code yX0_latestPosition cX0_latestPosition 5 (some .int), Cond.fieldLink RX0 15 "ParrotLog$Log" "keys" "[I"]
def wsX3_isSame_r5 : List Cond := [Cond.methodLink RX3 93 yX2_valueOf, Cond.instanceMethod yX2_valueOf, Cond.selects RX2 yX2_valueOf yX2_valueOf, Cond.code yX2_valueOf cX2_valueOf 2 (some .int), Cond.instanceMethod yX0_latestValue, Cond.selects RX0 yX0_latestValue yX0_latestValue, Cond.code yX0_latestValue cX0_latestValue 3 (some .int), Cond.fieldLink RX0 18 "ParrotLog$Log" "values" "[I", Cond.methodLink RX3 43 yX3_value, Cond.instanceMethod yX3_value, Cond.selects RX3 yX3_value yX3_value, Cond.initialized RX3, Cond.code yX3_value cX3_value 7 (some .int), Cond.methodLink RX3 96 yX2_countOf, Cond.instanceMethod yX2_countOf, Cond.selects RX2 yX2_countOf yX2_countOf, Cond.code yX2_countOf cX2_countOf 2 (some .int), Cond.instanceMethod yX0_countKey, Cond.selects RX0 yX0_countKey yX0_countKey, Cond.code yX0_countKey cX0_countKey 2 (some .int), Cond.methodLink RX0 49 yX0_countEqual, Cond.instanceMethod yX0_countEqual, Cond.selects RX0 yX0_countEqual yX0_countEqual, Cond.code yX0_countEqual cX0_countEqual 5 (some .int)]
def wsX3_isSame_r6 : List Cond := [Cond.methodLink RX3 99 yX2_saidIn, Cond.instanceMethod yX2_saidIn, Cond.selects RX2 yX2_saidIn yX2_saidIn, Cond.code yX2_saidIn cX2_saidIn 2 (some .int), Cond.fieldLink RX2 16 "ParrotLog" "saidInStorm" "[I", Cond.methodLink RX2 67 yX2_checkStorm, Cond.instanceMethod yX2_checkStorm, Cond.selects RX2 yX2_checkStorm yX2_checkStorm, Cond.code yX2_checkStorm cX2_checkStorm 2 none, Cond.methodLink RX3 102 yX2_keptOf, Cond.instanceMethod yX2_keptOf, Cond.selects RX2 yX2_keptOf yX2_keptOf, Cond.code yX2_keptOf cX2_keptOf 2 (some .int), Cond.instanceMethod yX0_countStorm, Cond.selects RX0 yX0_countStorm yX0_countStorm, Cond.code yX0_countStorm cX0_countStorm 2 (some .int), Cond.fieldLink RX0 21 "ParrotLog$Log" "stormNumbers" "[I", Cond.methodLink RX3 105 yX3_lag, Cond.instanceMethod yX3_lag, Cond.selects RX3 yX3_lag yX3_lag, Cond.code yX3_lag cX3_lag 7 (some .int), Cond.methodLink RX3 109 yX2_offsetOf, Cond.instanceMethod yX2_offsetOf, Cond.selects RX2 yX2_offsetOf yX2_offsetOf]
def wsX3_isSame_r7 : List Cond := [Cond.code yX2_offsetOf cX2_offsetOf 2 (some .int), Cond.methodLink RX2 101 yX2_shipNumbered, Cond.instanceMethod yX2_shipNumbered, Cond.selects RX2 yX2_shipNumbered yX2_shipNumbered, Cond.code yX2_shipNumbered cX2_shipNumbered 2 (some (.object "ParrotLog$Ship")), Cond.fieldLink RX2 22 "ParrotLog" "fleet" "[LParrotLog$Ship;", Cond.methodLink RX3 112 yX2_lagOf, Cond.instanceMethod yX2_lagOf, Cond.selects RX2 yX2_lagOf yX2_lagOf, Cond.code yX2_lagOf cX2_lagOf 2 (some .int), Cond.methodLink RX2 161 yX2_lag, Cond.instanceMethod yX2_lag, Cond.selects RX2 yX2_lag yX2_lag, Cond.code yX2_lag cX2_lag 2 (some .int), Cond.methodLink RX3 115 yX2_heardBy, Cond.instanceMethod yX2_heardBy, Cond.selects RX2 yX2_heardBy yX2_heardBy, Cond.code yX2_heardBy cX2_heardBy 2 (some .int), Cond.methodLink RX3 118 yX2_missedBy, Cond.instanceMethod yX2_missedBy, Cond.selects RX2 yX2_missedBy yX2_missedBy, Cond.code yX2_missedBy cX2_missedBy 2 (some .int), Cond.methodLink RX3 121 yX2_errorsOf, Cond.instanceMethod yX2_errorsOf]
def wsX3_isSame_r8 : List Cond := [Cond.selects RX2 yX2_errorsOf yX2_errorsOf, Cond.code yX2_errorsOf cX2_errorsOf 2 (some .int), Cond.methodLink RX2 174 yX2_errorsAfter, Cond.instanceMethod yX2_errorsAfter, Cond.selects RX2 yX2_errorsAfter yX2_errorsAfter, Cond.code yX2_errorsAfter cX2_errorsAfter 9 (some .int), Cond.methodLink RX2 225 Lib.Math.min.name, Cond.static Lib.Math.min.name, Cond.initialized "java/lang/Math", Cond.code Lib.Math.min.name Lib.Math.min.code 2 (some .int), Cond.methodLink RX3 124 yX3_errors, Cond.instanceMethod yX3_errors, Cond.selects RX3 yX3_errors yX3_errors, Cond.code yX3_errors cX3_errors 4 (some .int), Cond.methodLink RX3 127 yX2_knownBy, Cond.instanceMethod yX2_knownBy, Cond.selects RX2 yX2_knownBy yX2_knownBy, Cond.code yX2_knownBy cX2_knownBy 4 (some .int), Cond.methodLink RX3 131 yX2_farthestBehind, Cond.instanceMethod yX2_farthestBehind, Cond.selects RX2 yX2_farthestBehind yX2_farthestBehind, Cond.code yX2_farthestBehind cX2_farthestBehind 5 (some .int), Cond.methodLink RX3 134 yX2_meanLag, Cond.instanceMethod yX2_meanLag]
def wsX3_isSame_r9 : List Cond := [Cond.selects RX2 yX2_meanLag yX2_meanLag, Cond.code yX2_meanLag cX2_meanLag 3 (some .double)]
def wsX3_isSame : List Cond := .code yX3_isSame cX3_isSame 11 (some .boolean) :: ((wsX3_isSame_r1 ++ (wsX3_isSame_r2 ++ (wsX3_isSame_r3 ++ (wsX3_isSame_r4 ++ (wsX3_isSame_r5 ++ (wsX3_isSame_r6 ++ (wsX3_isSame_r7 ++ (wsX3_isSame_r8 ++ wsX3_isSame_r9)))))))) ++ wsX30 ++ wsX20 ++ wsX00 ++ wsX10 ++ (vx_atS RX2 245 "java/lang/IndexOutOfBoundsException" ["java/lang/RuntimeException", "java/lang/Exception"]).filter goodWord)
def wsJ9_min_7cf53 : List Cond := .code yJ9_min_7cf53 cJ9_min_7cf53 2 (some .int) :: ([])
def wsL_below : List Cond := .code yL_below cL_below 2 (some .int) :: ([.constant RL 7 (2147483647)])
def wsL_cell : List Cond := .code yL_cell cL_cell 2 (some .int) :: ([.constant RL 8 (790386105)])
def wsL_act_r1 : List Cond := [Cond.fieldLink RL 9 "ParrotLogLaw$Sim" "ships" "[[I", Cond.fieldLink RL 15 "ParrotLogLaw$Sim" "said" "[I", Cond.arrayClass .int, Cond.fieldLink RL 25 "ParrotLogLaw$Sim" "next" "I", Cond.fieldLink RL 41 "ParrotLogLaw$Sim" "isOn" "Z", Cond.fieldLink RL 52 "ParrotLogLaw$Sim" "log" "[[I", Cond.methodLink RL 19 yL_below, Cond.static yL_below, Cond.initialized RL, Cond.code yL_below cL_below 2 (some .int), Cond.constant RL 7 (2147483647), Cond.methodLink RL 29 yX3_with, Cond.static yX3_with, Cond.initialized RX3, Cond.code yX3_with cX3_with 4 (some (.array (.array .int))), Cond.classLink RX3 7 "[I", Cond.methodLink RL 33 yX2_addShip, Cond.instanceMethod yX2_addShip, Cond.selects RX2 yX2_addShip yX2_addShip, Cond.initialized RX2, Cond.code yX2_addShip cX2_addShip 4 (some .int), Cond.classLink RX2 37 "java/lang/IllegalArgumentException", Cond.initialized "java/lang/IllegalArgumentException", Cond.classLink RX2 54 "java/lang/IllegalStateException"]
def wsL_act_r2 : List Cond := [Cond.initialized "java/lang/IllegalStateException", Cond.fieldLink RX2 90 "ParrotLog" "shipCount" "I", Cond.fieldLink RX2 22 "ParrotLog" "fleet" "[LParrotLog$Ship;", Cond.methodLink RX2 82 yX2_checkReachable, Cond.instanceMethod yX2_checkReachable, Cond.selects RX2 yX2_checkReachable yX2_checkReachable, Cond.code yX2_checkReachable cX2_checkReachable 2 none, Cond.fieldLink RX2 10 "ParrotLog" "log" "LParrotLog$Log;", Cond.methodLink RL 38 yX2_seek, Cond.instanceMethod yX2_seek, Cond.selects RX2 yX2_seek yX2_seek, Cond.code yX2_seek cX2_seek 5 (some .int), Cond.methodLink RX2 101 yX2_shipNumbered, Cond.instanceMethod yX2_shipNumbered, Cond.selects RX2 yX2_shipNumbered yX2_shipNumbered, Cond.code yX2_shipNumbered cX2_shipNumbered 2 (some (.object "ParrotLog$Ship")), Cond.classLink RX2 243 "java/lang/IndexOutOfBoundsException", Cond.initialized "java/lang/IndexOutOfBoundsException", Cond.methodLink RL 45 yX2_startStorm, Cond.instanceMethod yX2_startStorm, Cond.selects RX2 yX2_startStorm yX2_startStorm, Cond.code yX2_startStorm cX2_startStorm 1 (some .int), Cond.fieldLink RX2 50 "ParrotLog" "stormOn" "Z", Cond.fieldLink RX2 59 "ParrotLog" "stormCount" "I"]
def wsL_act_r3 : List Cond := [Cond.methodLink RL 49 yX2_endStorm, Cond.instanceMethod yX2_endStorm, Cond.selects RX2 yX2_endStorm yX2_endStorm, Cond.code yX2_endStorm cX2_endStorm 1 (some .int), Cond.fieldLink RX2 16 "ParrotLog" "saidInStorm" "[I", Cond.methodLink RL 55 yX3_say, Cond.instanceMethod yX3_say, Cond.selects RX3 yX3_say yX3_say, Cond.code yX3_say cX3_say 3 (some .int), Cond.fieldLink RX3 9 "ParrotLogLaw$Sim" "log" "[[I", Cond.fieldLink RX3 29 "ParrotLogLaw$Sim" "next" "I", Cond.fieldLink RX3 32 "ParrotLogLaw$Sim" "isOn" "Z", Cond.fieldLink RX3 15 "ParrotLogLaw$Sim" "said" "[I", Cond.methodLink RX3 25 yX3_dropAt, Cond.instanceMethod yX3_dropAt, Cond.selects RX3 yX3_dropAt yX3_dropAt, Cond.code yX3_dropAt cX3_dropAt 7 none, Cond.fieldLink RX3 18 "ParrotLogLaw$Sim" "ships" "[[I", Cond.fieldLink RX3 21 "ParrotLogLaw$Sim" "dropped" "I", Cond.methodLink RX3 36 yX3_with, Cond.methodLink RL 58 yX2_replay, Cond.instanceMethod yX2_replay, Cond.selects RX2 yX2_replay yX2_replay, Cond.code yX2_replay cX2_replay 4 (some .int)]
def wsL_act_r4 : List Cond := [Cond.fieldLink RX2 27 "ParrotLog" "replayKeys" "[I", Cond.fieldLink RX2 30 "ParrotLog" "replayValues" "[I", Cond.methodLink RX2 67 yX2_checkStorm, Cond.instanceMethod yX2_checkStorm, Cond.selects RX2 yX2_checkStorm yX2_checkStorm, Cond.code yX2_checkStorm cX2_checkStorm 2 none, Cond.instanceMethod yX0_copyStorm, Cond.initialized RX0, Cond.selects RX0 yX0_copyStorm yX0_copyStorm, Cond.code yX0_copyStorm cX0_copyStorm 6 (some .int), Cond.fieldLink RX0 28 "ParrotLog$Log" "size" "I", Cond.fieldLink RX0 21 "ParrotLog$Log" "stormNumbers" "[I", Cond.fieldLink RX0 15 "ParrotLog$Log" "keys" "[I", Cond.fieldLink RX0 18 "ParrotLog$Log" "values" "[I", Cond.methodLink RX2 46 yX2_speak, Cond.instanceMethod yX2_speak, Cond.selects RX2 yX2_speak yX2_speak, Cond.code yX2_speak cX2_speak 4 (some .int), Cond.instanceMethod yX0_markFirst, Cond.selects RX0 yX0_markFirst yX0_markFirst, Cond.code yX0_markFirst cX0_markFirst 2 none, Cond.fieldLink RX0 24 "ParrotLog$Log" "marked" "[Z", Cond.methodLink RX2 78 yX2_dropMarked, Cond.instanceMethod yX2_dropMarked]
def wsL_act_r5 : List Cond := [Cond.selects RX2 yX2_dropMarked yX2_dropMarked, Cond.code yX2_dropMarked cX2_dropMarked 2 (some .int), Cond.instanceMethod yX0_countMarkedFrom, Cond.selects RX0 yX0_countMarkedFrom yX0_countMarkedFrom, Cond.code yX0_countMarkedFrom cX0_countMarkedFrom 4 (some .int), Cond.methodLink RX0 43 yX0_positionFrom, Cond.instanceMethod yX0_positionFrom, Cond.selects RX0 yX0_positionFrom yX0_positionFrom, Cond.code yX0_positionFrom cX0_positionFrom 3 (some .int), Cond.fieldLink RX0 9 "ParrotLog$Log" "offsets" "[I", Cond.instanceMethod yX0_removeMarked, Cond.selects RX0 yX0_removeMarked yX0_removeMarked, Cond.code yX0_removeMarked cX0_removeMarked 3 (some .int), Cond.fieldLink RX0 46 "ParrotLog$Log" "droppedInAll" "I", Cond.instanceMethod yX0_append, Cond.selects RX0 yX0_append yX0_append, Cond.code yX0_append cX0_append 4 (some .int), Cond.fieldLink RX0 32 "ParrotLog$Log" "next" "I", Cond.methodLink RL 62 yX2_compact, Cond.instanceMethod yX2_compact, Cond.selects RX2 yX2_compact yX2_compact, Cond.code yX2_compact cX2_compact 1 (some .int), Cond.methodLink RX2 75 yX2_markCompacted, Cond.instanceMethod yX2_markCompacted]
def wsL_act_r6 : List Cond := [Cond.selects RX2 yX2_markCompacted yX2_markCompacted, Cond.code yX2_markCompacted cX2_markCompacted 1 none, Cond.methodLink RX2 220 yX2_leastShipOffset, Cond.instanceMethod yX2_leastShipOffset, Cond.selects RX2 yX2_leastShipOffset yX2_leastShipOffset, Cond.code yX2_leastShipOffset cX2_leastShipOffset 3 (some .int), Cond.methodLink RX2 225 Lib.Math.min.name, Cond.static Lib.Math.min.name, Cond.initialized "java/lang/Math", Cond.code Lib.Math.min.name Lib.Math.min.code 2 (some .int), Cond.instanceMethod yX0_markCompacted, Cond.selects RX0 yX0_markCompacted yX0_markCompacted, Cond.code yX0_markCompacted cX0_markCompacted 5 none, Cond.methodLink RX0 35 yX0_latestPosition, Cond.instanceMethod yX0_latestPosition, Cond.selects RX0 yX0_latestPosition yX0_latestPosition, Cond.code yX0_latestPosition cX0_latestPosition 5 (some .int), Cond.methodLink RL 65 yX3_compact, Cond.instanceMethod yX3_compact, Cond.selects RX3 yX3_compact yX3_compact, Cond.code yX3_compact cX3_compact 8 (some .int), Cond.methodLink RL 66 yX3_dropAt, Cond.methodLink RL 70 yX2_trimTo, Cond.instanceMethod yX2_trimTo]
def wsL_act_r7 : List Cond := [Cond.selects RX2 yX2_trimTo yX2_trimTo, Cond.code yX2_trimTo cX2_trimTo 2 (some .int), Cond.instanceMethod yX0_markAhead, Cond.selects RX0 yX0_markAhead yX0_markAhead, Cond.code yX0_markAhead cX0_markAhead 3 none, Cond.methodLink RL 73 yX2_passHours, Cond.instanceMethod yX2_passHours, Cond.selects RX2 yX2_passHours yX2_passHours, Cond.code yX2_passHours cX2_passHours 4 (some .int), Cond.fieldLink RX2 115 "ParrotLog" "hour" "I", Cond.methodLink RX2 105 yX2_checkHours, Cond.static yX2_checkHours, Cond.code yX2_checkHours cX2_checkHours 1 none, Cond.methodLink RX2 108 yX2_mostHeard, Cond.instanceMethod yX2_mostHeard, Cond.selects RX2 yX2_mostHeard yX2_mostHeard, Cond.code yX2_mostHeard cX2_mostHeard 3 (some .int), Cond.methodLink RX2 111 yX2_hearNext, Cond.instanceMethod yX2_hearNext, Cond.selects RX2 yX2_hearNext yX2_hearNext, Cond.code yX2_hearNext cX2_hearNext 6 (some .int), Cond.instanceMethod yX1_hear, Cond.initialized RX1, Cond.selects RX1 yX1_hear yX1_hear]
def wsL_act_r8 : List Cond := [Cond.code yX1_hear cX1_hear 4 none, Cond.fieldLink RX1 9 "ParrotLog$Ship" "known" "[I", Cond.fieldLink RX1 15 "ParrotLog$Ship" "offset" "I", Cond.fieldLink RX1 19 "ParrotLog$Ship" "heard" "I", Cond.methodLink RL 76 yX3_pass, Cond.instanceMethod yX3_pass, Cond.selects RX3 yX3_pass yX3_pass, Cond.code yX3_pass cX3_pass 13 (some .int), Cond.fieldLink RX3 40 "ParrotLogLaw$Sim" "hours" "I", Cond.methodLink RL 79 yX2_say, Cond.instanceMethod yX2_say, Cond.selects RX2 yX2_say yX2_say, Cond.code yX2_say cX2_say 3 (some .int), Cond.methodLink RX2 33 yX2_isKey, Cond.static yX2_isKey, Cond.code yX2_isKey cX2_isKey 1 (some .boolean)]
def wsL_act : List Cond := .code yL_act cL_act 17 (some .boolean) :: ((wsL_act_r1 ++ (wsL_act_r2 ++ (wsL_act_r3 ++ (wsL_act_r4 ++ (wsL_act_r5 ++ (wsL_act_r6 ++ (wsL_act_r7 ++ wsL_act_r8))))))) ++ wsX30 ++ wsX20 ++ wsX10 ++ wsX00 ++ (vx_atS RX2 41 "java/lang/IllegalArgumentException" ["java/lang/RuntimeException", "java/lang/Exception"]).filter goodWord ++ (vx_atS RX2 58 "java/lang/IllegalStateException" ["java/lang/RuntimeException", "java/lang/Exception"]).filter goodWord ++ (vx_atS RX2 245 "java/lang/IndexOutOfBoundsException" ["java/lang/RuntimeException", "java/lang/Exception"]).filter goodWord)
def wsL_build_r1 : List Cond := [Cond.classLink RL 10 RX3, Cond.instantiable RX3 7, Cond.initialized RX3, Cond.instanceMethod yX3_init, Cond.code yX3_init cX3_init 1 none, Cond.methodLink RX3 1 objectInit, Cond.instanceMethod objectInit, Cond.code objectInit ⟨#[0xb1]⟩ 1 none, Cond.classLink RX3 7 "[I", Cond.fieldLink RX3 9 "ParrotLogLaw$Sim" "log" "[[I", Cond.arrayClass .int, Cond.fieldLink RX3 15 "ParrotLogLaw$Sim" "said" "[I", Cond.fieldLink RX3 18 "ParrotLogLaw$Sim" "ships" "[[I", Cond.methodLink RL 81 yL_cell, Cond.static yL_cell, Cond.initialized RL, Cond.code yL_cell cL_cell 2 (some .int), Cond.constant RL 8 (790386105), Cond.methodLink RL 19 yL_below, Cond.static yL_below, Cond.code yL_below cL_below 2 (some .int), Cond.constant RL 7 (2147483647), Cond.methodLink RL 85 yL_act, Cond.static yL_act]
def wsL_build_r2 : List Cond := [Cond.code yL_act cL_act 17 (some .boolean), Cond.fieldLink RL 9 "ParrotLogLaw$Sim" "ships" "[[I", Cond.fieldLink RL 15 "ParrotLogLaw$Sim" "said" "[I", Cond.fieldLink RL 25 "ParrotLogLaw$Sim" "next" "I", Cond.fieldLink RL 41 "ParrotLogLaw$Sim" "isOn" "Z", Cond.fieldLink RL 52 "ParrotLogLaw$Sim" "log" "[[I", Cond.methodLink RL 29 yX3_with, Cond.static yX3_with, Cond.code yX3_with cX3_with 4 (some (.array (.array .int))), Cond.methodLink RL 33 yX2_addShip, Cond.instanceMethod yX2_addShip, Cond.selects RX2 yX2_addShip yX2_addShip, Cond.initialized RX2, Cond.code yX2_addShip cX2_addShip 4 (some .int), Cond.classLink RX2 37 "java/lang/IllegalArgumentException", Cond.initialized "java/lang/IllegalArgumentException", Cond.classLink RX2 54 "java/lang/IllegalStateException", Cond.initialized "java/lang/IllegalStateException", Cond.fieldLink RX2 90 "ParrotLog" "shipCount" "I", Cond.fieldLink RX2 22 "ParrotLog" "fleet" "[LParrotLog$Ship;", Cond.methodLink RX2 82 yX2_checkReachable, Cond.instanceMethod yX2_checkReachable, Cond.selects RX2 yX2_checkReachable yX2_checkReachable, Cond.code yX2_checkReachable cX2_checkReachable 2 none]
def wsL_build_r3 : List Cond := [Cond.fieldLink RX2 10 "ParrotLog" "log" "LParrotLog$Log;", Cond.methodLink RL 38 yX2_seek, Cond.instanceMethod yX2_seek, Cond.selects RX2 yX2_seek yX2_seek, Cond.code yX2_seek cX2_seek 5 (some .int), Cond.methodLink RX2 101 yX2_shipNumbered, Cond.instanceMethod yX2_shipNumbered, Cond.selects RX2 yX2_shipNumbered yX2_shipNumbered, Cond.code yX2_shipNumbered cX2_shipNumbered 2 (some (.object "ParrotLog$Ship")), Cond.classLink RX2 243 "java/lang/IndexOutOfBoundsException", Cond.initialized "java/lang/IndexOutOfBoundsException", Cond.methodLink RL 45 yX2_startStorm, Cond.instanceMethod yX2_startStorm, Cond.selects RX2 yX2_startStorm yX2_startStorm, Cond.code yX2_startStorm cX2_startStorm 1 (some .int), Cond.fieldLink RX2 50 "ParrotLog" "stormOn" "Z", Cond.fieldLink RX2 59 "ParrotLog" "stormCount" "I", Cond.methodLink RL 49 yX2_endStorm, Cond.instanceMethod yX2_endStorm, Cond.selects RX2 yX2_endStorm yX2_endStorm, Cond.code yX2_endStorm cX2_endStorm 1 (some .int), Cond.fieldLink RX2 16 "ParrotLog" "saidInStorm" "[I", Cond.methodLink RL 55 yX3_say, Cond.instanceMethod yX3_say]
def wsL_build_r4 : List Cond := [Cond.selects RX3 yX3_say yX3_say, Cond.code yX3_say cX3_say 3 (some .int), Cond.fieldLink RX3 29 "ParrotLogLaw$Sim" "next" "I", Cond.fieldLink RX3 32 "ParrotLogLaw$Sim" "isOn" "Z", Cond.methodLink RX3 25 yX3_dropAt, Cond.instanceMethod yX3_dropAt, Cond.selects RX3 yX3_dropAt yX3_dropAt, Cond.code yX3_dropAt cX3_dropAt 7 none, Cond.fieldLink RX3 21 "ParrotLogLaw$Sim" "dropped" "I", Cond.methodLink RX3 36 yX3_with, Cond.methodLink RL 58 yX2_replay, Cond.instanceMethod yX2_replay, Cond.selects RX2 yX2_replay yX2_replay, Cond.code yX2_replay cX2_replay 4 (some .int), Cond.fieldLink RX2 27 "ParrotLog" "replayKeys" "[I", Cond.fieldLink RX2 30 "ParrotLog" "replayValues" "[I", Cond.methodLink RX2 67 yX2_checkStorm, Cond.instanceMethod yX2_checkStorm, Cond.selects RX2 yX2_checkStorm yX2_checkStorm, Cond.code yX2_checkStorm cX2_checkStorm 2 none, Cond.instanceMethod yX0_copyStorm, Cond.initialized RX0, Cond.selects RX0 yX0_copyStorm yX0_copyStorm, Cond.code yX0_copyStorm cX0_copyStorm 6 (some .int)]
def wsL_build_r5 : List Cond := [Cond.fieldLink RX0 28 "ParrotLog$Log" "size" "I", Cond.fieldLink RX0 21 "ParrotLog$Log" "stormNumbers" "[I", Cond.fieldLink RX0 15 "ParrotLog$Log" "keys" "[I", Cond.fieldLink RX0 18 "ParrotLog$Log" "values" "[I", Cond.methodLink RX2 46 yX2_speak, Cond.instanceMethod yX2_speak, Cond.selects RX2 yX2_speak yX2_speak, Cond.code yX2_speak cX2_speak 4 (some .int), Cond.instanceMethod yX0_markFirst, Cond.selects RX0 yX0_markFirst yX0_markFirst, Cond.code yX0_markFirst cX0_markFirst 2 none, Cond.fieldLink RX0 24 "ParrotLog$Log" "marked" "[Z", Cond.methodLink RX2 78 yX2_dropMarked, Cond.instanceMethod yX2_dropMarked, Cond.selects RX2 yX2_dropMarked yX2_dropMarked, Cond.code yX2_dropMarked cX2_dropMarked 2 (some .int), Cond.instanceMethod yX0_countMarkedFrom, Cond.selects RX0 yX0_countMarkedFrom yX0_countMarkedFrom, Cond.code yX0_countMarkedFrom cX0_countMarkedFrom 4 (some .int), Cond.methodLink RX0 43 yX0_positionFrom, Cond.instanceMethod yX0_positionFrom, Cond.selects RX0 yX0_positionFrom yX0_positionFrom, Cond.code yX0_positionFrom cX0_positionFrom 3 (some .int), Cond.fieldLink RX0 9 "ParrotLog$Log" "offsets" "[I"]
def wsL_build_r6 : List Cond := [Cond.instanceMethod yX0_removeMarked, Cond.selects RX0 yX0_removeMarked yX0_removeMarked, Cond.code yX0_removeMarked cX0_removeMarked 3 (some .int), Cond.fieldLink RX0 46 "ParrotLog$Log" "droppedInAll" "I", Cond.instanceMethod yX0_append, Cond.selects RX0 yX0_append yX0_append, Cond.code yX0_append cX0_append 4 (some .int), Cond.fieldLink RX0 32 "ParrotLog$Log" "next" "I", Cond.methodLink RL 62 yX2_compact, Cond.instanceMethod yX2_compact, Cond.selects RX2 yX2_compact yX2_compact, Cond.code yX2_compact cX2_compact 1 (some .int), Cond.methodLink RX2 75 yX2_markCompacted, Cond.instanceMethod yX2_markCompacted, Cond.selects RX2 yX2_markCompacted yX2_markCompacted, Cond.code yX2_markCompacted cX2_markCompacted 1 none, Cond.methodLink RX2 220 yX2_leastShipOffset, Cond.instanceMethod yX2_leastShipOffset, Cond.selects RX2 yX2_leastShipOffset yX2_leastShipOffset, Cond.code yX2_leastShipOffset cX2_leastShipOffset 3 (some .int), Cond.methodLink RX2 225 Lib.Math.min.name, Cond.static Lib.Math.min.name, Cond.initialized "java/lang/Math", Cond.code Lib.Math.min.name Lib.Math.min.code 2 (some .int)]
def wsL_build_r7 : List Cond := [Cond.instanceMethod yX0_markCompacted, Cond.selects RX0 yX0_markCompacted yX0_markCompacted, Cond.code yX0_markCompacted cX0_markCompacted 5 none, Cond.methodLink RX0 35 yX0_latestPosition, Cond.instanceMethod yX0_latestPosition, Cond.selects RX0 yX0_latestPosition yX0_latestPosition, Cond.code yX0_latestPosition cX0_latestPosition 5 (some .int), Cond.methodLink RL 65 yX3_compact, Cond.instanceMethod yX3_compact, Cond.selects RX3 yX3_compact yX3_compact, Cond.code yX3_compact cX3_compact 8 (some .int), Cond.methodLink RL 66 yX3_dropAt, Cond.methodLink RL 70 yX2_trimTo, Cond.instanceMethod yX2_trimTo, Cond.selects RX2 yX2_trimTo yX2_trimTo, Cond.code yX2_trimTo cX2_trimTo 2 (some .int), Cond.instanceMethod yX0_markAhead, Cond.selects RX0 yX0_markAhead yX0_markAhead, Cond.code yX0_markAhead cX0_markAhead 3 none, Cond.methodLink RL 73 yX2_passHours, Cond.instanceMethod yX2_passHours, Cond.selects RX2 yX2_passHours yX2_passHours, Cond.code yX2_passHours cX2_passHours 4 (some .int), Cond.fieldLink RX2 115 "ParrotLog" "hour" "I"]
def wsL_build_r8 : List Cond := [Cond.methodLink RX2 105 yX2_checkHours, Cond.static yX2_checkHours, Cond.code yX2_checkHours cX2_checkHours 1 none, Cond.methodLink RX2 108 yX2_mostHeard, Cond.instanceMethod yX2_mostHeard, Cond.selects RX2 yX2_mostHeard yX2_mostHeard, Cond.code yX2_mostHeard cX2_mostHeard 3 (some .int), Cond.methodLink RX2 111 yX2_hearNext, Cond.instanceMethod yX2_hearNext, Cond.selects RX2 yX2_hearNext yX2_hearNext, Cond.code yX2_hearNext cX2_hearNext 6 (some .int), Cond.instanceMethod yX1_hear, Cond.initialized RX1, Cond.selects RX1 yX1_hear yX1_hear, Cond.code yX1_hear cX1_hear 4 none, Cond.fieldLink RX1 9 "ParrotLog$Ship" "known" "[I", Cond.fieldLink RX1 15 "ParrotLog$Ship" "offset" "I", Cond.fieldLink RX1 19 "ParrotLog$Ship" "heard" "I", Cond.methodLink RL 76 yX3_pass, Cond.instanceMethod yX3_pass, Cond.selects RX3 yX3_pass yX3_pass, Cond.code yX3_pass cX3_pass 13 (some .int), Cond.fieldLink RX3 40 "ParrotLogLaw$Sim" "hours" "I", Cond.methodLink RL 79 yX2_say]
def wsL_build_r9 : List Cond := [Cond.instanceMethod yX2_say, Cond.selects RX2 yX2_say yX2_say, Cond.code yX2_say cX2_say 3 (some .int), Cond.methodLink RX2 33 yX2_isKey, Cond.static yX2_isKey, Cond.code yX2_isKey cX2_isKey 1 (some .boolean)]
def wsL_build : List Cond := .code yL_build cL_build 5 (some (.object "ParrotLogLaw$Sim")) :: ((wsL_build_r1 ++ (wsL_build_r2 ++ (wsL_build_r3 ++ (wsL_build_r4 ++ (wsL_build_r5 ++ (wsL_build_r6 ++ (wsL_build_r7 ++ (wsL_build_r8 ++ wsL_build_r9)))))))) ++ wsX30 ++ wsX20 ++ wsX10 ++ wsX00 ++ (vx_atS RX2 41 "java/lang/IllegalArgumentException" ["java/lang/RuntimeException", "java/lang/Exception"]).filter goodWord ++ (vx_atS RX2 58 "java/lang/IllegalStateException" ["java/lang/RuntimeException", "java/lang/Exception"]).filter goodWord ++ (vx_atS RX2 245 "java/lang/IndexOutOfBoundsException" ["java/lang/RuntimeException", "java/lang/Exception"]).filter goodWord)
def wsL_law0_r1 : List Cond := [Cond.classLink RL 34 RX2, Cond.instantiable RX2 9, Cond.initialized RX2, Cond.arrayClass .int, Cond.methodLink RL 174 Lib.Math.min.name, Cond.static Lib.Math.min.name, Cond.initialized "java/lang/Math", Cond.code Lib.Math.min.name Lib.Math.min.code 2 (some .int), Cond.methodLink RL 89 yX2_init, Cond.instanceMethod yX2_init, Cond.code yX2_init cX2_init 2 none, Cond.methodLink RX2 1 objectInit, Cond.instanceMethod objectInit, Cond.code objectInit ⟨#[0xb1]⟩ 1 none, Cond.classLink RX2 7 RX0, Cond.instantiable RX0 8, Cond.initialized RX0, Cond.fieldLink RX2 10 "ParrotLog" "log" "LParrotLog$Log;", Cond.fieldLink RX2 16 "ParrotLog" "saidInStorm" "[I", Cond.classLink RX2 20 RX1, Cond.fieldLink RX2 22 "ParrotLog" "fleet" "[LParrotLog$Ship;", Cond.instantiable RX1 5, Cond.initialized RX1, Cond.fieldLink RX2 27 "ParrotLog" "replayKeys" "[I"]
def wsL_law0_r2 : List Cond := [Cond.fieldLink RX2 30 "ParrotLog" "replayValues" "[I", Cond.instanceMethod yX0_init, Cond.code yX0_init cX0_init 1 none, Cond.methodLink RX0 3 objectInit, Cond.fieldLink RX0 9 "ParrotLog$Log" "offsets" "[I", Cond.fieldLink RX0 15 "ParrotLog$Log" "keys" "[I", Cond.fieldLink RX0 18 "ParrotLog$Log" "values" "[I", Cond.fieldLink RX0 21 "ParrotLog$Log" "stormNumbers" "[I", Cond.arrayClass .boolean, Cond.fieldLink RX0 24 "ParrotLog$Log" "marked" "[Z", Cond.instanceMethod yX1_init, Cond.code yX1_init cX1_init 1 none, Cond.methodLink RX1 3 objectInit, Cond.fieldLink RX1 9 "ParrotLog$Ship" "known" "[I", Cond.methodLink RL 90 yL_build, Cond.static yL_build, Cond.initialized RL, Cond.code yL_build cL_build 5 (some (.object "ParrotLogLaw$Sim")), Cond.classLink RL 10 RX3, Cond.instantiable RX3 7, Cond.initialized RX3, Cond.instanceMethod yX3_init, Cond.code yX3_init cX3_init 1 none, Cond.methodLink RX3 1 objectInit]
def wsL_law0_r3 : List Cond := [Cond.classLink RX3 7 "[I", Cond.fieldLink RX3 9 "ParrotLogLaw$Sim" "log" "[[I", Cond.fieldLink RX3 15 "ParrotLogLaw$Sim" "said" "[I", Cond.fieldLink RX3 18 "ParrotLogLaw$Sim" "ships" "[[I", Cond.methodLink RL 81 yL_cell, Cond.static yL_cell, Cond.code yL_cell cL_cell 2 (some .int), Cond.constant RL 8 (790386105), Cond.methodLink RL 19 yL_below, Cond.static yL_below, Cond.code yL_below cL_below 2 (some .int), Cond.constant RL 7 (2147483647), Cond.methodLink RL 85 yL_act, Cond.static yL_act, Cond.code yL_act cL_act 17 (some .boolean), Cond.fieldLink RL 9 "ParrotLogLaw$Sim" "ships" "[[I", Cond.fieldLink RL 15 "ParrotLogLaw$Sim" "said" "[I", Cond.fieldLink RL 25 "ParrotLogLaw$Sim" "next" "I", Cond.fieldLink RL 41 "ParrotLogLaw$Sim" "isOn" "Z", Cond.fieldLink RL 52 "ParrotLogLaw$Sim" "log" "[[I", Cond.methodLink RL 29 yX3_with, Cond.static yX3_with, Cond.code yX3_with cX3_with 4 (some (.array (.array .int))), Cond.methodLink RL 33 yX2_addShip]
def wsL_law0_r4 : List Cond := [Cond.instanceMethod yX2_addShip, Cond.selects RX2 yX2_addShip yX2_addShip, Cond.code yX2_addShip cX2_addShip 4 (some .int), Cond.classLink RX2 37 "java/lang/IllegalArgumentException", Cond.initialized "java/lang/IllegalArgumentException", Cond.classLink RX2 54 "java/lang/IllegalStateException", Cond.initialized "java/lang/IllegalStateException", Cond.fieldLink RX2 90 "ParrotLog" "shipCount" "I", Cond.methodLink RX2 82 yX2_checkReachable, Cond.instanceMethod yX2_checkReachable, Cond.selects RX2 yX2_checkReachable yX2_checkReachable, Cond.code yX2_checkReachable cX2_checkReachable 2 none, Cond.methodLink RL 38 yX2_seek, Cond.instanceMethod yX2_seek, Cond.selects RX2 yX2_seek yX2_seek, Cond.code yX2_seek cX2_seek 5 (some .int), Cond.methodLink RX2 101 yX2_shipNumbered, Cond.instanceMethod yX2_shipNumbered, Cond.selects RX2 yX2_shipNumbered yX2_shipNumbered, Cond.code yX2_shipNumbered cX2_shipNumbered 2 (some (.object "ParrotLog$Ship")), Cond.classLink RX2 243 "java/lang/IndexOutOfBoundsException", Cond.initialized "java/lang/IndexOutOfBoundsException", Cond.methodLink RL 45 yX2_startStorm, Cond.instanceMethod yX2_startStorm]
def wsL_law0_r5 : List Cond := [Cond.selects RX2 yX2_startStorm yX2_startStorm, Cond.code yX2_startStorm cX2_startStorm 1 (some .int), Cond.fieldLink RX2 50 "ParrotLog" "stormOn" "Z", Cond.fieldLink RX2 59 "ParrotLog" "stormCount" "I", Cond.methodLink RL 49 yX2_endStorm, Cond.instanceMethod yX2_endStorm, Cond.selects RX2 yX2_endStorm yX2_endStorm, Cond.code yX2_endStorm cX2_endStorm 1 (some .int), Cond.methodLink RL 55 yX3_say, Cond.instanceMethod yX3_say, Cond.selects RX3 yX3_say yX3_say, Cond.code yX3_say cX3_say 3 (some .int), Cond.fieldLink RX3 29 "ParrotLogLaw$Sim" "next" "I", Cond.fieldLink RX3 32 "ParrotLogLaw$Sim" "isOn" "Z", Cond.methodLink RX3 25 yX3_dropAt, Cond.instanceMethod yX3_dropAt, Cond.selects RX3 yX3_dropAt yX3_dropAt, Cond.code yX3_dropAt cX3_dropAt 7 none, Cond.fieldLink RX3 21 "ParrotLogLaw$Sim" "dropped" "I", Cond.methodLink RX3 36 yX3_with, Cond.methodLink RL 58 yX2_replay, Cond.instanceMethod yX2_replay, Cond.selects RX2 yX2_replay yX2_replay, Cond.code yX2_replay cX2_replay 4 (some .int)]
def wsL_law0_r6 : List Cond := [Cond.methodLink RX2 67 yX2_checkStorm, Cond.instanceMethod yX2_checkStorm, Cond.selects RX2 yX2_checkStorm yX2_checkStorm, Cond.code yX2_checkStorm cX2_checkStorm 2 none, Cond.instanceMethod yX0_copyStorm, Cond.selects RX0 yX0_copyStorm yX0_copyStorm, Cond.code yX0_copyStorm cX0_copyStorm 6 (some .int), Cond.fieldLink RX0 28 "ParrotLog$Log" "size" "I", Cond.methodLink RX2 46 yX2_speak, Cond.instanceMethod yX2_speak, Cond.selects RX2 yX2_speak yX2_speak, Cond.code yX2_speak cX2_speak 4 (some .int), Cond.instanceMethod yX0_markFirst, Cond.selects RX0 yX0_markFirst yX0_markFirst, Cond.code yX0_markFirst cX0_markFirst 2 none, Cond.methodLink RX2 78 yX2_dropMarked, Cond.instanceMethod yX2_dropMarked, Cond.selects RX2 yX2_dropMarked yX2_dropMarked, Cond.code yX2_dropMarked cX2_dropMarked 2 (some .int), Cond.instanceMethod yX0_countMarkedFrom, Cond.selects RX0 yX0_countMarkedFrom yX0_countMarkedFrom, Cond.code yX0_countMarkedFrom cX0_countMarkedFrom 4 (some .int), Cond.methodLink RX0 43 yX0_positionFrom, Cond.instanceMethod yX0_positionFrom]
def wsL_law0_r7 : List Cond := [Cond.selects RX0 yX0_positionFrom yX0_positionFrom, Cond.code yX0_positionFrom cX0_positionFrom 3 (some .int), Cond.instanceMethod yX0_removeMarked, Cond.selects RX0 yX0_removeMarked yX0_removeMarked, Cond.code yX0_removeMarked cX0_removeMarked 3 (some .int), Cond.fieldLink RX0 46 "ParrotLog$Log" "droppedInAll" "I", Cond.instanceMethod yX0_append, Cond.selects RX0 yX0_append yX0_append, Cond.code yX0_append cX0_append 4 (some .int), Cond.fieldLink RX0 32 "ParrotLog$Log" "next" "I", Cond.methodLink RL 62 yX2_compact, Cond.instanceMethod yX2_compact, Cond.selects RX2 yX2_compact yX2_compact, Cond.code yX2_compact cX2_compact 1 (some .int), Cond.methodLink RX2 75 yX2_markCompacted, Cond.instanceMethod yX2_markCompacted, Cond.selects RX2 yX2_markCompacted yX2_markCompacted, Cond.code yX2_markCompacted cX2_markCompacted 1 none, Cond.methodLink RX2 220 yX2_leastShipOffset, Cond.instanceMethod yX2_leastShipOffset, Cond.selects RX2 yX2_leastShipOffset yX2_leastShipOffset, Cond.code yX2_leastShipOffset cX2_leastShipOffset 3 (some .int), Cond.methodLink RX2 225 Lib.Math.min.name, Cond.instanceMethod yX0_markCompacted]
def wsL_law0_r8 : List Cond := [Cond.selects RX0 yX0_markCompacted yX0_markCompacted, Cond.code yX0_markCompacted cX0_markCompacted 5 none, Cond.methodLink RX0 35 yX0_latestPosition, Cond.instanceMethod yX0_latestPosition, Cond.selects RX0 yX0_latestPosition yX0_latestPosition, Cond.code yX0_latestPosition cX0_latestPosition 5 (some .int), Cond.methodLink RL 65 yX3_compact, Cond.instanceMethod yX3_compact, Cond.selects RX3 yX3_compact yX3_compact, Cond.code yX3_compact cX3_compact 8 (some .int), Cond.methodLink RL 66 yX3_dropAt, Cond.methodLink RL 70 yX2_trimTo, Cond.instanceMethod yX2_trimTo, Cond.selects RX2 yX2_trimTo yX2_trimTo, Cond.code yX2_trimTo cX2_trimTo 2 (some .int), Cond.instanceMethod yX0_markAhead, Cond.selects RX0 yX0_markAhead yX0_markAhead, Cond.code yX0_markAhead cX0_markAhead 3 none, Cond.methodLink RL 73 yX2_passHours, Cond.instanceMethod yX2_passHours, Cond.selects RX2 yX2_passHours yX2_passHours, Cond.code yX2_passHours cX2_passHours 4 (some .int), Cond.fieldLink RX2 115 "ParrotLog" "hour" "I", Cond.methodLink RX2 105 yX2_checkHours]
def wsL_law0_r9 : List Cond := [Cond.static yX2_checkHours, Cond.code yX2_checkHours cX2_checkHours 1 none, Cond.methodLink RX2 108 yX2_mostHeard, Cond.instanceMethod yX2_mostHeard, Cond.selects RX2 yX2_mostHeard yX2_mostHeard, Cond.code yX2_mostHeard cX2_mostHeard 3 (some .int), Cond.methodLink RX2 111 yX2_hearNext, Cond.instanceMethod yX2_hearNext, Cond.selects RX2 yX2_hearNext yX2_hearNext, Cond.code yX2_hearNext cX2_hearNext 6 (some .int), Cond.instanceMethod yX1_hear, Cond.selects RX1 yX1_hear yX1_hear, Cond.code yX1_hear cX1_hear 4 none, Cond.fieldLink RX1 15 "ParrotLog$Ship" "offset" "I", Cond.fieldLink RX1 19 "ParrotLog$Ship" "heard" "I", Cond.methodLink RL 76 yX3_pass, Cond.instanceMethod yX3_pass, Cond.selects RX3 yX3_pass yX3_pass, Cond.code yX3_pass cX3_pass 13 (some .int), Cond.fieldLink RX3 40 "ParrotLogLaw$Sim" "hours" "I", Cond.methodLink RL 79 yX2_say, Cond.instanceMethod yX2_say, Cond.selects RX2 yX2_say yX2_say, Cond.code yX2_say cX2_say 3 (some .int)]
def wsL_law0_r10 : List Cond := [Cond.methodLink RX2 33 yX2_isKey, Cond.static yX2_isKey, Cond.code yX2_isKey cX2_isKey 1 (some .boolean), Cond.methodLink RL 94 yX2_phrases, Cond.instanceMethod yX2_phrases, Cond.selects RX2 yX2_phrases yX2_phrases, Cond.code yX2_phrases cX2_phrases 1 (some .int), Cond.methodLink RL 97 yX2_nextOffset, Cond.instanceMethod yX2_nextOffset, Cond.selects RX2 yX2_nextOffset yX2_nextOffset, Cond.code yX2_nextOffset cX2_nextOffset 1 (some .int), Cond.methodLink RL 100 yX2_firstOffset, Cond.instanceMethod yX2_firstOffset, Cond.selects RX2 yX2_firstOffset yX2_firstOffset, Cond.code yX2_firstOffset cX2_firstOffset 1 (some .int), Cond.methodLink RL 103 yX2_ships, Cond.instanceMethod yX2_ships, Cond.selects RX2 yX2_ships yX2_ships, Cond.code yX2_ships cX2_ships 1 (some .int), Cond.methodLink RL 105 yX2_dropped, Cond.instanceMethod yX2_dropped, Cond.selects RX2 yX2_dropped yX2_dropped, Cond.code yX2_dropped cX2_dropped 1 (some .int), Cond.methodLink RL 108 yX2_isKept]
def wsL_law0_r11 : List Cond := [Cond.instanceMethod yX2_isKept, Cond.selects RX2 yX2_isKept yX2_isKept, Cond.code yX2_isKept cX2_isKept 2 (some .boolean), Cond.instanceMethod yX0_positionOf, Cond.selects RX0 yX0_positionOf yX0_positionOf, Cond.code yX0_positionOf cX0_positionOf 3 (some .int), Cond.methodLink RL 112 yX2_latestOf, Cond.instanceMethod yX2_latestOf, Cond.selects RX2 yX2_latestOf yX2_latestOf, Cond.code yX2_latestOf cX2_latestOf 2 (some .int), Cond.methodLink RX2 146 yX2_checkKey, Cond.static yX2_checkKey, Cond.code yX2_checkKey cX2_checkKey 1 none, Cond.instanceMethod yX0_latestOffset, Cond.selects RX0 yX0_latestOffset yX0_latestOffset, Cond.code yX0_latestOffset cX0_latestOffset 3 (some .int), Cond.methodLink RL 115 yX2_countOf, Cond.instanceMethod yX2_countOf, Cond.selects RX2 yX2_countOf yX2_countOf, Cond.code yX2_countOf cX2_countOf 2 (some .int), Cond.instanceMethod yX0_countKey, Cond.selects RX0 yX0_countKey yX0_countKey, Cond.code yX0_countKey cX0_countKey 2 (some .int), Cond.methodLink RX0 49 yX0_countEqual]
def wsL_law0_r12 : List Cond := [Cond.instanceMethod yX0_countEqual, Cond.selects RX0 yX0_countEqual yX0_countEqual, Cond.code yX0_countEqual cX0_countEqual 5 (some .int), Cond.methodLink RL 118 yX2_keyAt, Cond.instanceMethod yX2_keyAt, Cond.selects RX2 yX2_keyAt yX2_keyAt, Cond.code yX2_keyAt cX2_keyAt 2 (some .int), Cond.methodLink RX2 137 yX2_keptPosition, Cond.instanceMethod yX2_keptPosition, Cond.selects RX2 yX2_keptPosition yX2_keptPosition, Cond.code yX2_keptPosition cX2_keptPosition 3 (some .int), Cond.methodLink RL 121 yX2_valueAt, Cond.instanceMethod yX2_valueAt, Cond.selects RX2 yX2_valueAt yX2_valueAt, Cond.code yX2_valueAt cX2_valueAt 2 (some .int), Cond.methodLink RL 124 yX2_valueOf, Cond.instanceMethod yX2_valueOf, Cond.selects RX2 yX2_valueOf yX2_valueOf, Cond.code yX2_valueOf cX2_valueOf 2 (some .int), Cond.instanceMethod yX0_latestValue, Cond.selects RX0 yX0_latestValue yX0_latestValue, Cond.code yX0_latestValue cX0_latestValue 3 (some .int), Cond.methodLink RL 127 yX2_stormAt, Cond.instanceMethod yX2_stormAt]
def wsL_law0_r13 : List Cond := [Cond.selects RX2 yX2_stormAt yX2_stormAt, Cond.code yX2_stormAt cX2_stormAt 2 (some .int), Cond.methodLink RL 130 yX2_storms, Cond.instanceMethod yX2_storms, Cond.selects RX2 yX2_storms yX2_storms, Cond.code yX2_storms cX2_storms 1 (some .int), Cond.methodLink RL 133 yX2_wouldCompact, Cond.instanceMethod yX2_wouldCompact, Cond.selects RX2 yX2_wouldCompact yX2_wouldCompact, Cond.code yX2_wouldCompact cX2_wouldCompact 1 (some .int), Cond.instanceMethod yX0_countMarked, Cond.selects RX0 yX0_countMarked yX0_countMarked, Cond.code yX0_countMarked cX0_countMarked 1 (some .int), Cond.methodLink RX0 39 yX0_countMarkedFrom, Cond.methodLink RL 136 yX2_keptOf, Cond.instanceMethod yX2_keptOf, Cond.selects RX2 yX2_keptOf yX2_keptOf, Cond.code yX2_keptOf cX2_keptOf 2 (some .int), Cond.instanceMethod yX0_countStorm, Cond.selects RX0 yX0_countStorm yX0_countStorm, Cond.code yX0_countStorm cX0_countStorm 2 (some .int), Cond.methodLink RL 139 yX2_saidIn, Cond.instanceMethod yX2_saidIn, Cond.selects RX2 yX2_saidIn yX2_saidIn]
def wsL_law0_r14 : List Cond := [Cond.code yX2_saidIn cX2_saidIn 2 (some .int), Cond.methodLink RL 142 yX2_heardBy, Cond.instanceMethod yX2_heardBy, Cond.selects RX2 yX2_heardBy yX2_heardBy, Cond.code yX2_heardBy cX2_heardBy 2 (some .int), Cond.methodLink RL 145 yX2_missedBy, Cond.instanceMethod yX2_missedBy, Cond.selects RX2 yX2_missedBy yX2_missedBy, Cond.code yX2_missedBy cX2_missedBy 2 (some .int), Cond.methodLink RL 148 yX2_lagOf, Cond.instanceMethod yX2_lagOf, Cond.selects RX2 yX2_lagOf yX2_lagOf, Cond.code yX2_lagOf cX2_lagOf 2 (some .int), Cond.methodLink RX2 161 yX2_lag, Cond.instanceMethod yX2_lag, Cond.selects RX2 yX2_lag yX2_lag, Cond.code yX2_lag cX2_lag 2 (some .int), Cond.methodLink RL 151 yX2_offsetOf, Cond.instanceMethod yX2_offsetOf, Cond.selects RX2 yX2_offsetOf yX2_offsetOf, Cond.code yX2_offsetOf cX2_offsetOf 2 (some .int), Cond.methodLink RL 154 yX2_errorsOf, Cond.instanceMethod yX2_errorsOf, Cond.selects RX2 yX2_errorsOf yX2_errorsOf]
def wsL_law0_r15 : List Cond := [Cond.code yX2_errorsOf cX2_errorsOf 2 (some .int), Cond.methodLink RX2 174 yX2_errorsAfter, Cond.instanceMethod yX2_errorsAfter, Cond.selects RX2 yX2_errorsAfter yX2_errorsAfter, Cond.code yX2_errorsAfter cX2_errorsAfter 9 (some .int), Cond.methodLink RL 157 yX2_farthestBehind, Cond.instanceMethod yX2_farthestBehind, Cond.selects RX2 yX2_farthestBehind yX2_farthestBehind, Cond.code yX2_farthestBehind cX2_farthestBehind 5 (some .int), Cond.methodLink RL 160 yX2_wouldMiss, Cond.instanceMethod yX2_wouldMiss, Cond.selects RX2 yX2_wouldMiss yX2_wouldMiss, Cond.code yX2_wouldMiss cX2_wouldMiss 3 (some .int), Cond.methodLink RL 163 yX2_meanLag, Cond.instanceMethod yX2_meanLag, Cond.selects RX2 yX2_meanLag yX2_meanLag, Cond.code yX2_meanLag cX2_meanLag 3 (some .double), Cond.methodLink RL 167 yX2_hours, Cond.instanceMethod yX2_hours, Cond.selects RX2 yX2_hours yX2_hours, Cond.code yX2_hours cX2_hours 1 (some .int), Cond.methodLink RL 170 yX2_isStormy, Cond.instanceMethod yX2_isStormy, Cond.selects RX2 yX2_isStormy yX2_isStormy]
def wsL_law0_r16 : List Cond := [Cond.code yX2_isStormy cX2_isStormy 1 (some .boolean), Cond.methodLink RL 179 yX3_isSame, Cond.instanceMethod yX3_isSame, Cond.selects RX3 yX3_isSame yX3_isSame, Cond.code yX3_isSame cX3_isSame 11 (some .boolean), Cond.methodLink RX3 52 yX2_hours, Cond.methodLink RX3 57 yX2_phrases, Cond.methodLink RX3 60 yX2_nextOffset, Cond.methodLink RX3 63 yX2_firstOffset, Cond.methodLink RX3 66 yX2_dropped, Cond.methodLink RX3 68 yX2_isStormy, Cond.methodLink RX3 72 yX2_storms, Cond.methodLink RX3 75 yX2_ships, Cond.methodLink RX3 77 yX2_isKept, Cond.methodLink RX3 81 yX2_keyAt, Cond.methodLink RX3 84 yX2_valueAt, Cond.methodLink RX3 87 yX2_stormAt, Cond.methodLink RX3 90 yX2_latestOf, Cond.methodLink RX3 93 yX2_valueOf, Cond.methodLink RX3 43 yX3_value, Cond.instanceMethod yX3_value, Cond.selects RX3 yX3_value yX3_value, Cond.code yX3_value cX3_value 7 (some .int), Cond.methodLink RX3 96 yX2_countOf]
def wsL_law0_r17 : List Cond := [Cond.methodLink RX3 99 yX2_saidIn, Cond.methodLink RX3 102 yX2_keptOf, Cond.methodLink RX3 105 yX3_lag, Cond.instanceMethod yX3_lag, Cond.selects RX3 yX3_lag yX3_lag, Cond.code yX3_lag cX3_lag 7 (some .int), Cond.methodLink RX3 109 yX2_offsetOf, Cond.methodLink RX3 112 yX2_lagOf, Cond.methodLink RX3 115 yX2_heardBy, Cond.methodLink RX3 118 yX2_missedBy, Cond.methodLink RX3 121 yX2_errorsOf, Cond.methodLink RX3 124 yX3_errors, Cond.instanceMethod yX3_errors, Cond.selects RX3 yX3_errors yX3_errors, Cond.code yX3_errors cX3_errors 4 (some .int), Cond.methodLink RX3 127 yX2_knownBy, Cond.instanceMethod yX2_knownBy, Cond.selects RX2 yX2_knownBy yX2_knownBy, Cond.code yX2_knownBy cX2_knownBy 4 (some .int), Cond.methodLink RX3 131 yX2_farthestBehind, Cond.methodLink RX3 134 yX2_meanLag]
def wsL_law0 : List Cond := (wsL_law0_r1 ++ (wsL_law0_r2 ++ (wsL_law0_r3 ++ (wsL_law0_r4 ++ (wsL_law0_r5 ++ (wsL_law0_r6 ++ (wsL_law0_r7 ++ (wsL_law0_r8 ++ (wsL_law0_r9 ++ (wsL_law0_r10 ++ (wsL_law0_r11 ++ (wsL_law0_r12 ++ (wsL_law0_r13 ++ (wsL_law0_r14 ++ (wsL_law0_r15 ++ (wsL_law0_r16 ++ wsL_law0_r17)))))))))))))))) ++ wsX20 ++ wsX00 ++ wsX10 ++ wsX30 ++ ([] : List Cond)
def wsL_law : List Cond := wsL_law0 ++ (vx_atS RX2 41 "java/lang/IllegalArgumentException" ["java/lang/RuntimeException", "java/lang/Exception"]).filter goodWord ++ (vx_atS RX2 58 "java/lang/IllegalStateException" ["java/lang/RuntimeException", "java/lang/Exception"]).filter goodWord ++ (vx_atS RX2 245 "java/lang/IndexOutOfBoundsException" ["java/lang/RuntimeException", "java/lang/Exception"]).filter goodWord
abbrev vwCl : List vw_C := [(RX0, TX0, 8), (RX1, TX1, 5), (RX2, TX2, 9), (RX3, TX3, 7)]
end
section
theorem goodIn_q {big ws cs : List Cond} (hp : ws.filter k2_isCode = cs) (hc : ∀ w ∈ cs, w ∈ big) (h : (ws.filter (fun w => !k2_isCode w)).all (fun w => decide (w ∈ big)) = true) : ∀ w ∈ ws, w ∈ big := by
  intro w hw
  by_cases hk : k2_isCode w = true
  · exact hc w (hp ▸ List.mem_filter.mpr ⟨hw, hk⟩)
  · exact of_decide_eq_true (List.all_eq_true.mp h w (List.mem_filter.mpr ⟨hw, by simpa using hk⟩))
set_option maxRecDepth 100000 in
theorem wsL_law0_r1_in : ∀ w ∈ wsL_law0_r1, w ∈ lw_tbl := goodIn_q (cs := [Cond.code Lib.Math.min.name Lib.Math.min.code 2 (some .int), Cond.code yX2_init cX2_init 2 none, Cond.code objectInit ⟨#[0xb1]⟩ 1 none]) (by rfl) (List.forall_mem_cons.mpr ⟨List.mem_of_getElem? (i := 267) (by rfl), List.forall_mem_cons.mpr ⟨List.mem_of_getElem? (i := 46) (by rfl), List.forall_mem_cons.mpr ⟨List.mem_of_getElem? (i := 49) (by rfl), fun w hw => absurd hw List.not_mem_nil⟩⟩⟩) (by decide +kernel)
set_option maxRecDepth 100000 in
theorem wsL_law0_r2_in : ∀ w ∈ wsL_law0_r2, w ∈ lw_tbl := goodIn_q (cs := [Cond.code yX0_init cX0_init 1 none, Cond.code yX1_init cX1_init 1 none, Cond.code yL_build cL_build 5 (some (.object "ParrotLogLaw$Sim")), Cond.code yX3_init cX3_init 1 none]) (by rfl) (List.forall_mem_cons.mpr ⟨List.mem_of_getElem? (i := 54) (by rfl), List.forall_mem_cons.mpr ⟨List.mem_of_getElem? (i := 95) (by rfl), List.forall_mem_cons.mpr ⟨List.mem_of_getElem? (i := 604) (by rfl), List.forall_mem_cons.mpr ⟨List.mem_of_getElem? (i := 609) (by rfl), fun w hw => absurd hw List.not_mem_nil⟩⟩⟩⟩) (by decide +kernel)
set_option maxRecDepth 100000 in
theorem wsL_law0_r3_in : ∀ w ∈ wsL_law0_r3, w ∈ lw_tbl := goodIn_q (cs := [Cond.code yL_cell cL_cell 2 (some .int), Cond.code yL_below cL_below 2 (some .int), Cond.code yL_act cL_act 17 (some .boolean), Cond.code yX3_with cX3_with 4 (some (.array (.array .int)))]) (by rfl) (List.forall_mem_cons.mpr ⟨List.mem_of_getElem? (i := 530) (by rfl), List.forall_mem_cons.mpr ⟨List.mem_of_getElem? (i := 526) (by rfl), List.forall_mem_cons.mpr ⟨List.mem_of_getElem? (i := 534) (by rfl), List.forall_mem_cons.mpr ⟨List.mem_of_getElem? (i := 475) (by rfl), fun w hw => absurd hw List.not_mem_nil⟩⟩⟩⟩) (by decide +kernel)
set_option maxRecDepth 100000 in
theorem wsL_law0_r4_in : ∀ w ∈ wsL_law0_r4, w ∈ lw_tbl := goodIn_q (cs := [Cond.code yX2_addShip cX2_addShip 4 (some .int), Cond.code yX2_checkReachable cX2_checkReachable 2 none, Cond.code yX2_seek cX2_seek 5 (some .int), Cond.code yX2_shipNumbered cX2_shipNumbered 2 (some (.object "ParrotLog$Ship"))]) (by rfl) (List.forall_mem_cons.mpr ⟨List.mem_of_getElem? (i := 539) (by rfl), List.forall_mem_cons.mpr ⟨List.mem_of_getElem? (i := 544) (by rfl), List.forall_mem_cons.mpr ⟨List.mem_of_getElem? (i := 565) (by rfl), List.forall_mem_cons.mpr ⟨List.mem_of_getElem? (i := 403) (by rfl), fun w hw => absurd hw List.not_mem_nil⟩⟩⟩⟩) (by decide +kernel)
set_option maxRecDepth 100000 in
theorem wsL_law0_r5_in : ∀ w ∈ wsL_law0_r5, w ∈ lw_tbl := goodIn_q (cs := [Cond.code yX2_startStorm cX2_startStorm 1 (some .int), Cond.code yX2_endStorm cX2_endStorm 1 (some .int), Cond.code yX3_say cX3_say 3 (some .int), Cond.code yX3_dropAt cX3_dropAt 7 none, Cond.code yX2_replay cX2_replay 4 (some .int)]) (by rfl) (List.forall_mem_cons.mpr ⟨List.mem_of_getElem? (i := 569) (by rfl), List.forall_mem_cons.mpr ⟨List.mem_of_getElem? (i := 575) (by rfl), List.forall_mem_cons.mpr ⟨List.mem_of_getElem? (i := 466) (by rfl), List.forall_mem_cons.mpr ⟨List.mem_of_getElem? (i := 470) (by rfl), List.forall_mem_cons.mpr ⟨List.mem_of_getElem? (i := 580) (by rfl), fun w hw => absurd hw List.not_mem_nil⟩⟩⟩⟩⟩) (by decide +kernel)
set_option maxRecDepth 100000 in
theorem wsL_law0_r6_in : ∀ w ∈ wsL_law0_r6, w ∈ lw_tbl := goodIn_q (cs := [Cond.code yX2_checkStorm cX2_checkStorm 2 none, Cond.code yX0_copyStorm cX0_copyStorm 6 (some .int), Cond.code yX2_speak cX2_speak 4 (some .int), Cond.code yX0_markFirst cX0_markFirst 2 none, Cond.code yX2_dropMarked cX2_dropMarked 2 (some .int), Cond.code yX0_countMarkedFrom cX0_countMarkedFrom 4 (some .int)]) (by rfl) (List.forall_mem_cons.mpr ⟨List.mem_of_getElem? (i := 382) (by rfl), List.forall_mem_cons.mpr ⟨List.mem_of_getElem? (i := 584) (by rfl), List.forall_mem_cons.mpr ⟨List.mem_of_getElem? (i := 223) (by rfl), List.forall_mem_cons.mpr ⟨List.mem_of_getElem? (i := 227) (by rfl), List.forall_mem_cons.mpr ⟨List.mem_of_getElem? (i := 231) (by rfl), List.forall_mem_cons.mpr ⟨List.mem_of_getElem? (i := 235) (by rfl), fun w hw => absurd hw List.not_mem_nil⟩⟩⟩⟩⟩⟩) (by decide +kernel)
set_option maxRecDepth 100000 in
theorem wsL_law0_r7_in : ∀ w ∈ wsL_law0_r7, w ∈ lw_tbl := goodIn_q (cs := [Cond.code yX0_positionFrom cX0_positionFrom 3 (some .int), Cond.code yX0_removeMarked cX0_removeMarked 3 (some .int), Cond.code yX0_append cX0_append 4 (some .int), Cond.code yX2_compact cX2_compact 1 (some .int), Cond.code yX2_markCompacted cX2_markCompacted 1 none, Cond.code yX2_leastShipOffset cX2_leastShipOffset 3 (some .int)]) (by rfl) (List.forall_mem_cons.mpr ⟨List.mem_of_getElem? (i := 239) (by rfl), List.forall_mem_cons.mpr ⟨List.mem_of_getElem? (i := 243) (by rfl), List.forall_mem_cons.mpr ⟨List.mem_of_getElem? (i := 247) (by rfl), List.forall_mem_cons.mpr ⟨List.mem_of_getElem? (i := 588) (by rfl), List.forall_mem_cons.mpr ⟨List.mem_of_getElem? (i := 441) (by rfl), List.forall_mem_cons.mpr ⟨List.mem_of_getElem? (i := 445) (by rfl), fun w hw => absurd hw List.not_mem_nil⟩⟩⟩⟩⟩⟩) (by decide +kernel)
set_option maxRecDepth 100000 in
theorem wsL_law0_r8_in : ∀ w ∈ wsL_law0_r8, w ∈ lw_tbl := goodIn_q (cs := [Cond.code yX0_markCompacted cX0_markCompacted 5 none, Cond.code yX0_latestPosition cX0_latestPosition 5 (some .int), Cond.code yX3_compact cX3_compact 8 (some .int), Cond.code yX2_trimTo cX2_trimTo 2 (some .int), Cond.code yX0_markAhead cX0_markAhead 3 none, Cond.code yX2_passHours cX2_passHours 4 (some .int)]) (by rfl) (List.forall_mem_cons.mpr ⟨List.mem_of_getElem? (i := 449) (by rfl), List.forall_mem_cons.mpr ⟨List.mem_of_getElem? (i := 346) (by rfl), List.forall_mem_cons.mpr ⟨List.mem_of_getElem? (i := 592) (by rfl), List.forall_mem_cons.mpr ⟨List.mem_of_getElem? (i := 597) (by rfl), List.forall_mem_cons.mpr ⟨List.mem_of_getElem? (i := 601) (by rfl), List.forall_mem_cons.mpr ⟨List.mem_of_getElem? (i := 251) (by rfl), fun w hw => absurd hw List.not_mem_nil⟩⟩⟩⟩⟩⟩) (by decide +kernel)
set_option maxRecDepth 100000 in
theorem wsL_law0_r9_in : ∀ w ∈ wsL_law0_r9, w ∈ lw_tbl := goodIn_q (cs := [Cond.code yX2_checkHours cX2_checkHours 1 none, Cond.code yX2_mostHeard cX2_mostHeard 3 (some .int), Cond.code yX2_hearNext cX2_hearNext 6 (some .int), Cond.code yX1_hear cX1_hear 4 none, Cond.code yX3_pass cX3_pass 13 (some .int), Cond.code yX2_say cX2_say 3 (some .int)]) (by rfl) (List.forall_mem_cons.mpr ⟨List.mem_of_getElem? (i := 254) (by rfl), List.forall_mem_cons.mpr ⟨List.mem_of_getElem? (i := 259) (by rfl), List.forall_mem_cons.mpr ⟨List.mem_of_getElem? (i := 263) (by rfl), List.forall_mem_cons.mpr ⟨List.mem_of_getElem? (i := 271) (by rfl), List.forall_mem_cons.mpr ⟨List.mem_of_getElem? (i := 479) (by rfl), List.forall_mem_cons.mpr ⟨List.mem_of_getElem? (i := 147) (by rfl), fun w hw => absurd hw List.not_mem_nil⟩⟩⟩⟩⟩⟩) (by decide +kernel)
end
section
set_option maxRecDepth 100000 in
theorem wsL_law0_r10_in : ∀ w ∈ wsL_law0_r10, w ∈ lw_tbl := goodIn_q (cs := [Cond.code yX2_isKey cX2_isKey 1 (some .boolean), Cond.code yX2_phrases cX2_phrases 1 (some .int), Cond.code yX2_nextOffset cX2_nextOffset 1 (some .int), Cond.code yX2_firstOffset cX2_firstOffset 1 (some .int), Cond.code yX2_ships cX2_ships 1 (some .int), Cond.code yX2_dropped cX2_dropped 1 (some .int)]) (by rfl) (List.forall_mem_cons.mpr ⟨List.mem_of_getElem? (i := 150) (by rfl), List.forall_mem_cons.mpr ⟨List.mem_of_getElem? (i := 279) (by rfl), List.forall_mem_cons.mpr ⟨List.mem_of_getElem? (i := 283) (by rfl), List.forall_mem_cons.mpr ⟨List.mem_of_getElem? (i := 287) (by rfl), List.forall_mem_cons.mpr ⟨List.mem_of_getElem? (i := 395) (by rfl), List.forall_mem_cons.mpr ⟨List.mem_of_getElem? (i := 291) (by rfl), fun w hw => absurd hw List.not_mem_nil⟩⟩⟩⟩⟩⟩) (by decide +kernel)
set_option maxRecDepth 100000 in
theorem wsL_law0_r11_in : ∀ w ∈ wsL_law0_r11, w ∈ lw_tbl := goodIn_q (cs := [Cond.code yX2_isKept cX2_isKept 2 (some .boolean), Cond.code yX0_positionOf cX0_positionOf 3 (some .int), Cond.code yX2_latestOf cX2_latestOf 2 (some .int), Cond.code yX2_checkKey cX2_checkKey 1 none, Cond.code yX0_latestOffset cX0_latestOffset 3 (some .int), Cond.code yX2_countOf cX2_countOf 2 (some .int), Cond.code yX0_countKey cX0_countKey 2 (some .int)]) (by rfl) (List.forall_mem_cons.mpr ⟨List.mem_of_getElem? (i := 295) (by rfl), List.forall_mem_cons.mpr ⟨List.mem_of_getElem? (i := 299) (by rfl), List.forall_mem_cons.mpr ⟨List.mem_of_getElem? (i := 335) (by rfl), List.forall_mem_cons.mpr ⟨List.mem_of_getElem? (i := 338) (by rfl), List.forall_mem_cons.mpr ⟨List.mem_of_getElem? (i := 342) (by rfl), List.forall_mem_cons.mpr ⟨List.mem_of_getElem? (i := 358) (by rfl), List.forall_mem_cons.mpr ⟨List.mem_of_getElem? (i := 362) (by rfl), fun w hw => absurd hw List.not_mem_nil⟩⟩⟩⟩⟩⟩⟩) (by decide +kernel)
set_option maxRecDepth 100000 in
theorem wsL_law0_r12_in : ∀ w ∈ wsL_law0_r12, w ∈ lw_tbl := goodIn_q (cs := [Cond.code yX0_countEqual cX0_countEqual 5 (some .int), Cond.code yX2_keyAt cX2_keyAt 2 (some .int), Cond.code yX2_keptPosition cX2_keptPosition 3 (some .int), Cond.code yX2_valueAt cX2_valueAt 2 (some .int), Cond.code yX2_valueOf cX2_valueOf 2 (some .int), Cond.code yX0_latestValue cX0_latestValue 3 (some .int)]) (by rfl) (List.forall_mem_cons.mpr ⟨List.mem_of_getElem? (i := 366) (by rfl), List.forall_mem_cons.mpr ⟨List.mem_of_getElem? (i := 303) (by rfl), List.forall_mem_cons.mpr ⟨List.mem_of_getElem? (i := 307) (by rfl), List.forall_mem_cons.mpr ⟨List.mem_of_getElem? (i := 327) (by rfl), List.forall_mem_cons.mpr ⟨List.mem_of_getElem? (i := 350) (by rfl), List.forall_mem_cons.mpr ⟨List.mem_of_getElem? (i := 354) (by rfl), fun w hw => absurd hw List.not_mem_nil⟩⟩⟩⟩⟩⟩) (by decide +kernel)
set_option maxRecDepth 100000 in
theorem wsL_law0_r13_in : ∀ w ∈ wsL_law0_r13, w ∈ lw_tbl := goodIn_q (cs := [Cond.code yX2_stormAt cX2_stormAt 2 (some .int), Cond.code yX2_storms cX2_storms 1 (some .int), Cond.code yX2_wouldCompact cX2_wouldCompact 1 (some .int), Cond.code yX0_countMarked cX0_countMarked 1 (some .int), Cond.code yX2_keptOf cX2_keptOf 2 (some .int), Cond.code yX0_countStorm cX0_countStorm 2 (some .int)]) (by rfl) (List.forall_mem_cons.mpr ⟨List.mem_of_getElem? (i := 331) (by rfl), List.forall_mem_cons.mpr ⟨List.mem_of_getElem? (i := 370) (by rfl), List.forall_mem_cons.mpr ⟨List.mem_of_getElem? (i := 437) (by rfl), List.forall_mem_cons.mpr ⟨List.mem_of_getElem? (i := 453) (by rfl), List.forall_mem_cons.mpr ⟨List.mem_of_getElem? (i := 387) (by rfl), List.forall_mem_cons.mpr ⟨List.mem_of_getElem? (i := 391) (by rfl), fun w hw => absurd hw List.not_mem_nil⟩⟩⟩⟩⟩⟩) (by decide +kernel)
set_option maxRecDepth 100000 in
theorem wsL_law0_r14_in : ∀ w ∈ wsL_law0_r14, w ∈ lw_tbl := goodIn_q (cs := [Cond.code yX2_saidIn cX2_saidIn 2 (some .int), Cond.code yX2_heardBy cX2_heardBy 2 (some .int), Cond.code yX2_missedBy cX2_missedBy 2 (some .int), Cond.code yX2_lagOf cX2_lagOf 2 (some .int), Cond.code yX2_lag cX2_lag 2 (some .int), Cond.code yX2_offsetOf cX2_offsetOf 2 (some .int)]) (by rfl) (List.forall_mem_cons.mpr ⟨List.mem_of_getElem? (i := 378) (by rfl), List.forall_mem_cons.mpr ⟨List.mem_of_getElem? (i := 416) (by rfl), List.forall_mem_cons.mpr ⟨List.mem_of_getElem? (i := 420) (by rfl), List.forall_mem_cons.mpr ⟨List.mem_of_getElem? (i := 408) (by rfl), List.forall_mem_cons.mpr ⟨List.mem_of_getElem? (i := 412) (by rfl), List.forall_mem_cons.mpr ⟨List.mem_of_getElem? (i := 399) (by rfl), fun w hw => absurd hw List.not_mem_nil⟩⟩⟩⟩⟩⟩) (by decide +kernel)
set_option maxRecDepth 100000 in
theorem wsL_law0_r15_in : ∀ w ∈ wsL_law0_r15, w ∈ lw_tbl := goodIn_q (cs := [Cond.code yX2_errorsOf cX2_errorsOf 2 (some .int), Cond.code yX2_errorsAfter cX2_errorsAfter 9 (some .int), Cond.code yX2_farthestBehind cX2_farthestBehind 5 (some .int), Cond.code yX2_wouldMiss cX2_wouldMiss 3 (some .int), Cond.code yX2_meanLag cX2_meanLag 3 (some .double), Cond.code yX2_hours cX2_hours 1 (some .int)]) (by rfl) (List.forall_mem_cons.mpr ⟨List.mem_of_getElem? (i := 424) (by rfl), List.forall_mem_cons.mpr ⟨List.mem_of_getElem? (i := 428) (by rfl), List.forall_mem_cons.mpr ⟨List.mem_of_getElem? (i := 433) (by rfl), List.forall_mem_cons.mpr ⟨List.mem_of_getElem? (i := 458) (by rfl), List.forall_mem_cons.mpr ⟨List.mem_of_getElem? (i := 462) (by rfl), List.forall_mem_cons.mpr ⟨List.mem_of_getElem? (i := 275) (by rfl), fun w hw => absurd hw List.not_mem_nil⟩⟩⟩⟩⟩⟩) (by decide +kernel)
set_option maxRecDepth 100000 in
theorem wsL_law0_r16_in : ∀ w ∈ wsL_law0_r16, w ∈ lw_tbl := goodIn_q (cs := [Cond.code yX2_isStormy cX2_isStormy 1 (some .boolean), Cond.code yX3_isSame cX3_isSame 11 (some .boolean), Cond.code yX3_value cX3_value 7 (some .int)]) (by rfl) (List.forall_mem_cons.mpr ⟨List.mem_of_getElem? (i := 374) (by rfl), List.forall_mem_cons.mpr ⟨List.mem_of_getElem? (i := 483) (by rfl), List.forall_mem_cons.mpr ⟨List.mem_of_getElem? (i := 501) (by rfl), fun w hw => absurd hw List.not_mem_nil⟩⟩⟩) (by decide +kernel)
set_option maxRecDepth 100000 in
theorem wsL_law0_r17_in : ∀ w ∈ wsL_law0_r17, w ∈ lw_tbl := goodIn_q (cs := [Cond.code yX3_lag cX3_lag 7 (some .int), Cond.code yX3_errors cX3_errors 4 (some .int), Cond.code yX2_knownBy cX2_knownBy 4 (some .int)]) (by rfl) (List.forall_mem_cons.mpr ⟨List.mem_of_getElem? (i := 508) (by rfl), List.forall_mem_cons.mpr ⟨List.mem_of_getElem? (i := 517) (by rfl), List.forall_mem_cons.mpr ⟨List.mem_of_getElem? (i := 521) (by rfl), fun w hw => absurd hw List.not_mem_nil⟩⟩⟩) (by decide +kernel)
end
section
theorem wsX20_i9 : ∀ w ∈ wsX20, w ∈ lw_tbl := by decide +kernel
theorem wsX00_i9 : ∀ w ∈ wsX00, w ∈ lw_tbl := by decide +kernel
theorem wsX10_i9 : ∀ w ∈ wsX10, w ∈ lw_tbl := by decide +kernel
theorem wsX30_i9 : ∀ w ∈ wsX30, w ∈ lw_tbl := by decide +kernel
theorem wsL_law_in0 : ∀ w ∈ wsL_law0, w ∈ lw_tbl := by
  intro w h
  unfold wsL_law0 at h
  rcases List.mem_append.mp h with h | h
  case inr => exact absurd h List.not_mem_nil
  rcases List.mem_append.mp h with h | h
  case inr => exact wsX30_i9 w h
  rcases List.mem_append.mp h with h | h
  case inr => exact wsX10_i9 w h
  rcases List.mem_append.mp h with h | h
  case inr => exact wsX00_i9 w h
  rcases List.mem_append.mp h with h | h
  case inr => exact wsX20_i9 w h
  rcases List.mem_append.mp h with h | h
  case inl => exact wsL_law0_r1_in w h
  rcases List.mem_append.mp h with h | h
  case inl => exact wsL_law0_r2_in w h
  rcases List.mem_append.mp h with h | h
  case inl => exact wsL_law0_r3_in w h
  rcases List.mem_append.mp h with h | h
  case inl => exact wsL_law0_r4_in w h
  rcases List.mem_append.mp h with h | h
  case inl => exact wsL_law0_r5_in w h
  rcases List.mem_append.mp h with h | h
  case inl => exact wsL_law0_r6_in w h
  rcases List.mem_append.mp h with h | h
  case inl => exact wsL_law0_r7_in w h
  rcases List.mem_append.mp h with h | h
  case inl => exact wsL_law0_r8_in w h
  rcases List.mem_append.mp h with h | h
  case inl => exact wsL_law0_r9_in w h
  rcases List.mem_append.mp h with h | h
  case inl => exact wsL_law0_r10_in w h
  rcases List.mem_append.mp h with h | h
  case inl => exact wsL_law0_r11_in w h
  rcases List.mem_append.mp h with h | h
  case inl => exact wsL_law0_r12_in w h
  rcases List.mem_append.mp h with h | h
  case inl => exact wsL_law0_r13_in w h
  rcases List.mem_append.mp h with h | h
  case inl => exact wsL_law0_r14_in w h
  rcases List.mem_append.mp h with h | h
  case inl => exact wsL_law0_r15_in w h
  rcases List.mem_append.mp h with h | h
  case inl => exact wsL_law0_r16_in w h
  exact wsL_law0_r17_in w h
end
section
theorem wsL_law_x0 : ∀ w ∈ (vx_atS RX2 41 "java/lang/IllegalArgumentException" ["java/lang/RuntimeException", "java/lang/Exception"]).filter goodWord, w ∈ lw_tbl := by decide +kernel
theorem wsL_law_x1 : ∀ w ∈ (vx_atS RX2 58 "java/lang/IllegalStateException" ["java/lang/RuntimeException", "java/lang/Exception"]).filter goodWord, w ∈ lw_tbl := by decide +kernel
theorem wsL_law_x2 : ∀ w ∈ (vx_atS RX2 245 "java/lang/IndexOutOfBoundsException" ["java/lang/RuntimeException", "java/lang/Exception"]).filter goodWord, w ∈ lw_tbl := by decide +kernel
theorem wsL_law_in : ∀ w ∈ wsL_law, w ∈ lw_tbl := fun w h => (List.mem_append.mp h).elim (fun h => (List.mem_append.mp h).elim (fun h => (List.mem_append.mp h).elim (fun h => wsL_law_in0 w h) (fun h => wsL_law_x0 w h)) (fun h => wsL_law_x1 w h)) (fun h => wsL_law_x2 w h)
theorem inlX0 : ∀ w ∈ wsX00, w ∈ wsL_law := fun _ h => List.mem_append_left _ (List.mem_append_left _ (List.mem_append_left _ (List.mem_append_left _ (List.mem_append_left _ (List.mem_append_left _ (List.mem_append_right _ h))))))
theorem inX0 : ∀ w ∈ wsX00, w ∈ lw_tbl := fun w h => wsL_law_in w (inlX0 w h)
theorem inlX1 : ∀ w ∈ wsX10, w ∈ wsL_law := fun _ h => List.mem_append_left _ (List.mem_append_left _ (List.mem_append_left _ (List.mem_append_left _ (List.mem_append_left _ (List.mem_append_right _ h)))))
theorem inX1 : ∀ w ∈ wsX10, w ∈ lw_tbl := fun w h => wsL_law_in w (inlX1 w h)
theorem inlX2 : ∀ w ∈ wsX20, w ∈ wsL_law := fun _ h => List.mem_append_left _ (List.mem_append_left _ (List.mem_append_left _ (List.mem_append_left _ (List.mem_append_left _ (List.mem_append_left _ (List.mem_append_left _ (List.mem_append_right _ h)))))))
theorem inX2 : ∀ w ∈ wsX20, w ∈ lw_tbl := fun w h => wsL_law_in w (inlX2 w h)
theorem inlX3 : ∀ w ∈ wsX30, w ∈ wsL_law := fun _ h => List.mem_append_left _ (List.mem_append_left _ (List.mem_append_left _ (List.mem_append_left _ (List.mem_append_right _ h))))
theorem inX3 : ∀ w ∈ wsX30, w ∈ lw_tbl := fun w h => wsL_law_in w (inlX3 w h)
theorem inX4 : ∀ w ∈ wsX40, w ∈ lw_tbl := by decide +kernel
theorem inJ9 : ∀ w ∈ wsJ90, w ∈ lw_tbl := by decide +kernel
theorem inJ0 : ∀ w ∈ wsJ00, w ∈ lw_tbl := by decide +kernel
end
