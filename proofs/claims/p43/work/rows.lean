section
/-- a private method of a class that the tables say can be made, by its rows of tables_1 -/
def lw_okq (q : MethodName × Nat) : Prop := (q.1.cls ≠ "java/lang/invoke/MethodHandle" ∧ q.1.cls ≠ "java/lang/invoke/VarHandle") ∧ Cond.instantiable q.1.cls q.2 ∈ tables_1 ∧ Cond.privateMethod q.1 ∈ tables_1 ∧ Cond.instanceMethod q.1 ∈ tables_1
theorem lw_p0 : lw_okq (⟨"java/lang/Throwable", "fillInStackTrace", "(I)Ljava/lang/Throwable;"⟩, 6) := ⟨⟨by decide +kernel, by decide +kernel⟩, List.mem_of_getElem? (i := 160) (by decide +kernel), List.mem_of_getElem? (i := 158) (by decide +kernel), List.mem_of_getElem? (i := 159) (by decide +kernel)⟩
theorem lw_p1 : lw_okq (⟨"ParrotLog", "speak", "(II)I"⟩, 9) := ⟨⟨by decide +kernel, by decide +kernel⟩, List.mem_of_getElem? (i := 13) (by decide +kernel), List.mem_of_getElem? (i := 191) (by decide +kernel), List.mem_of_getElem? (i := 192) (by decide +kernel)⟩
theorem lw_p2 : lw_okq (⟨"ParrotLog$Log", "markFirst", "()V"⟩, 8) := ⟨⟨by decide +kernel, by decide +kernel⟩, List.mem_of_getElem? (i := 21) (by decide +kernel), List.mem_of_getElem? (i := 195) (by decide +kernel), List.mem_of_getElem? (i := 196) (by decide +kernel)⟩
theorem lw_p3 : lw_okq (⟨"ParrotLog", "dropMarked", "()I"⟩, 9) := ⟨⟨by decide +kernel, by decide +kernel⟩, List.mem_of_getElem? (i := 13) (by decide +kernel), List.mem_of_getElem? (i := 199) (by decide +kernel), List.mem_of_getElem? (i := 200) (by decide +kernel)⟩
theorem lw_p4 : lw_okq (⟨"ParrotLog$Log", "countMarkedFrom", "(I)I"⟩, 8) := ⟨⟨by decide +kernel, by decide +kernel⟩, List.mem_of_getElem? (i := 21) (by decide +kernel), List.mem_of_getElem? (i := 203) (by decide +kernel), List.mem_of_getElem? (i := 204) (by decide +kernel)⟩
theorem lw_p5 : lw_okq (⟨"ParrotLog$Log", "positionFrom", "(I)I"⟩, 8) := ⟨⟨by decide +kernel, by decide +kernel⟩, List.mem_of_getElem? (i := 21) (by decide +kernel), List.mem_of_getElem? (i := 207) (by decide +kernel), List.mem_of_getElem? (i := 208) (by decide +kernel)⟩
theorem lw_p6 : lw_okq (⟨"ParrotLog$Log", "removeMarked", "()I"⟩, 8) := ⟨⟨by decide +kernel, by decide +kernel⟩, List.mem_of_getElem? (i := 21) (by decide +kernel), List.mem_of_getElem? (i := 211) (by decide +kernel), List.mem_of_getElem? (i := 212) (by decide +kernel)⟩
theorem lw_p7 : lw_okq (⟨"ParrotLog$Log", "append", "(III)I"⟩, 8) := ⟨⟨by decide +kernel, by decide +kernel⟩, List.mem_of_getElem? (i := 21) (by decide +kernel), List.mem_of_getElem? (i := 215) (by decide +kernel), List.mem_of_getElem? (i := 216) (by decide +kernel)⟩
theorem lw_p8 : lw_okq (⟨"ParrotLog", "mostHeard", "(II)I"⟩, 9) := ⟨⟨by decide +kernel, by decide +kernel⟩, List.mem_of_getElem? (i := 13) (by decide +kernel), List.mem_of_getElem? (i := 227) (by decide +kernel), List.mem_of_getElem? (i := 228) (by decide +kernel)⟩
theorem lw_p9 : lw_okq (⟨"ParrotLog", "hearNext", "(LParrotLog$Ship;I)I"⟩, 9) := ⟨⟨by decide +kernel, by decide +kernel⟩, List.mem_of_getElem? (i := 13) (by decide +kernel), List.mem_of_getElem? (i := 231) (by decide +kernel), List.mem_of_getElem? (i := 232) (by decide +kernel)⟩
theorem lw_p10 : lw_okq (⟨"ParrotLog$Ship", "hear", "(III)V"⟩, 5) := ⟨⟨by decide +kernel, by decide +kernel⟩, List.mem_of_getElem? (i := 62) (by decide +kernel), List.mem_of_getElem? (i := 239) (by decide +kernel), List.mem_of_getElem? (i := 240) (by decide +kernel)⟩
theorem lw_p11 : lw_okq (⟨"ParrotLog$Log", "positionOf", "(I)I"⟩, 8) := ⟨⟨by decide +kernel, by decide +kernel⟩, List.mem_of_getElem? (i := 21) (by decide +kernel), List.mem_of_getElem? (i := 267) (by decide +kernel), List.mem_of_getElem? (i := 268) (by decide +kernel)⟩
theorem lw_p12 : lw_okq (⟨"ParrotLog", "keptPosition", "(I)I"⟩, 9) := ⟨⟨by decide +kernel, by decide +kernel⟩, List.mem_of_getElem? (i := 13) (by decide +kernel), List.mem_of_getElem? (i := 275) (by decide +kernel), List.mem_of_getElem? (i := 276) (by decide +kernel)⟩
theorem lw_p13 : lw_okq (⟨"ParrotLog$Log", "latestOffset", "(I)I"⟩, 8) := ⟨⟨by decide +kernel, by decide +kernel⟩, List.mem_of_getElem? (i := 21) (by decide +kernel), List.mem_of_getElem? (i := 310) (by decide +kernel), List.mem_of_getElem? (i := 311) (by decide +kernel)⟩
theorem lw_p14 : lw_okq (⟨"ParrotLog$Log", "latestPosition", "(III)I"⟩, 8) := ⟨⟨by decide +kernel, by decide +kernel⟩, List.mem_of_getElem? (i := 21) (by decide +kernel), List.mem_of_getElem? (i := 314) (by decide +kernel), List.mem_of_getElem? (i := 315) (by decide +kernel)⟩
theorem lw_p15 : lw_okq (⟨"ParrotLog$Log", "latestValue", "(I)I"⟩, 8) := ⟨⟨by decide +kernel, by decide +kernel⟩, List.mem_of_getElem? (i := 21) (by decide +kernel), List.mem_of_getElem? (i := 322) (by decide +kernel), List.mem_of_getElem? (i := 323) (by decide +kernel)⟩
def lw_privs_1 : List (MethodName × Nat) := [(⟨"java/lang/Throwable", "fillInStackTrace", "(I)Ljava/lang/Throwable;"⟩, 6), (⟨"ParrotLog", "speak", "(II)I"⟩, 9), (⟨"ParrotLog$Log", "markFirst", "()V"⟩, 8), (⟨"ParrotLog", "dropMarked", "()I"⟩, 9), (⟨"ParrotLog$Log", "countMarkedFrom", "(I)I"⟩, 8), (⟨"ParrotLog$Log", "positionFrom", "(I)I"⟩, 8), (⟨"ParrotLog$Log", "removeMarked", "()I"⟩, 8), (⟨"ParrotLog$Log", "append", "(III)I"⟩, 8), (⟨"ParrotLog", "mostHeard", "(II)I"⟩, 9), (⟨"ParrotLog", "hearNext", "(LParrotLog$Ship;I)I"⟩, 9), (⟨"ParrotLog$Ship", "hear", "(III)V"⟩, 5), (⟨"ParrotLog$Log", "positionOf", "(I)I"⟩, 8), (⟨"ParrotLog", "keptPosition", "(I)I"⟩, 9), (⟨"ParrotLog$Log", "latestOffset", "(I)I"⟩, 8), (⟨"ParrotLog$Log", "latestPosition", "(III)I"⟩, 8), (⟨"ParrotLog$Log", "latestValue", "(I)I"⟩, 8)]
theorem lw_r1 : ∀ q ∈ lw_privs_1, lw_okq q := List.forall_mem_cons.mpr ⟨lw_p0, List.forall_mem_cons.mpr ⟨lw_p1, List.forall_mem_cons.mpr ⟨lw_p2, List.forall_mem_cons.mpr ⟨lw_p3, List.forall_mem_cons.mpr ⟨lw_p4, List.forall_mem_cons.mpr ⟨lw_p5, List.forall_mem_cons.mpr ⟨lw_p6, List.forall_mem_cons.mpr ⟨lw_p7, List.forall_mem_cons.mpr ⟨lw_p8, List.forall_mem_cons.mpr ⟨lw_p9, List.forall_mem_cons.mpr ⟨lw_p10, List.forall_mem_cons.mpr ⟨lw_p11, List.forall_mem_cons.mpr ⟨lw_p12, List.forall_mem_cons.mpr ⟨lw_p13, List.forall_mem_cons.mpr ⟨lw_p14, List.forall_mem_cons.mpr ⟨lw_p15, fun _ h => absurd h List.not_mem_nil⟩⟩⟩⟩⟩⟩⟩⟩⟩⟩⟩⟩⟩⟩⟩⟩
theorem lw_p16 : lw_okq (⟨"ParrotLog$Log", "countKey", "(I)I"⟩, 8) := ⟨⟨by decide +kernel, by decide +kernel⟩, List.mem_of_getElem? (i := 21) (by decide +kernel), List.mem_of_getElem? (i := 330) (by decide +kernel), List.mem_of_getElem? (i := 331) (by decide +kernel)⟩
theorem lw_p17 : lw_okq (⟨"ParrotLog$Log", "countEqual", "([II)I"⟩, 8) := ⟨⟨by decide +kernel, by decide +kernel⟩, List.mem_of_getElem? (i := 21) (by decide +kernel), List.mem_of_getElem? (i := 334) (by decide +kernel), List.mem_of_getElem? (i := 335) (by decide +kernel)⟩
theorem lw_p18 : lw_okq (⟨"ParrotLog", "checkStorm", "(I)V"⟩, 9) := ⟨⟨by decide +kernel, by decide +kernel⟩, List.mem_of_getElem? (i := 13) (by decide +kernel), List.mem_of_getElem? (i := 350) (by decide +kernel), List.mem_of_getElem? (i := 351) (by decide +kernel)⟩
theorem lw_p19 : lw_okq (⟨"ParrotLog$Log", "countStorm", "(I)I"⟩, 8) := ⟨⟨by decide +kernel, by decide +kernel⟩, List.mem_of_getElem? (i := 21) (by decide +kernel), List.mem_of_getElem? (i := 359) (by decide +kernel), List.mem_of_getElem? (i := 360) (by decide +kernel)⟩
theorem lw_p20 : lw_okq (⟨"ParrotLog", "shipNumbered", "(I)LParrotLog$Ship;"⟩, 9) := ⟨⟨by decide +kernel, by decide +kernel⟩, List.mem_of_getElem? (i := 13) (by decide +kernel), List.mem_of_getElem? (i := 371) (by decide +kernel), List.mem_of_getElem? (i := 372) (by decide +kernel)⟩
theorem lw_p21 : lw_okq (⟨"ParrotLog", "lag", "(LParrotLog$Ship;)I"⟩, 9) := ⟨⟨by decide +kernel, by decide +kernel⟩, List.mem_of_getElem? (i := 13) (by decide +kernel), List.mem_of_getElem? (i := 380) (by decide +kernel), List.mem_of_getElem? (i := 381) (by decide +kernel)⟩
theorem lw_p22 : lw_okq (⟨"ParrotLog", "errorsAfter", "(LParrotLog$Ship;I)I"⟩, 9) := ⟨⟨by decide +kernel, by decide +kernel⟩, List.mem_of_getElem? (i := 13) (by decide +kernel), List.mem_of_getElem? (i := 396) (by decide +kernel), List.mem_of_getElem? (i := 397) (by decide +kernel)⟩
theorem lw_p23 : lw_okq (⟨"ParrotLog", "markCompacted", "()V"⟩, 9) := ⟨⟨by decide +kernel, by decide +kernel⟩, List.mem_of_getElem? (i := 13) (by decide +kernel), List.mem_of_getElem? (i := 409) (by decide +kernel), List.mem_of_getElem? (i := 410) (by decide +kernel)⟩
theorem lw_p24 : lw_okq (⟨"ParrotLog", "leastShipOffset", "()I"⟩, 9) := ⟨⟨by decide +kernel, by decide +kernel⟩, List.mem_of_getElem? (i := 13) (by decide +kernel), List.mem_of_getElem? (i := 413) (by decide +kernel), List.mem_of_getElem? (i := 414) (by decide +kernel)⟩
theorem lw_p25 : lw_okq (⟨"ParrotLog$Log", "markCompacted", "(I)V"⟩, 8) := ⟨⟨by decide +kernel, by decide +kernel⟩, List.mem_of_getElem? (i := 21) (by decide +kernel), List.mem_of_getElem? (i := 417) (by decide +kernel), List.mem_of_getElem? (i := 418) (by decide +kernel)⟩
theorem lw_p26 : lw_okq (⟨"ParrotLog$Log", "countMarked", "()I"⟩, 8) := ⟨⟨by decide +kernel, by decide +kernel⟩, List.mem_of_getElem? (i := 21) (by decide +kernel), List.mem_of_getElem? (i := 421) (by decide +kernel), List.mem_of_getElem? (i := 422) (by decide +kernel)⟩
theorem lw_p27 : lw_okq (⟨"ParrotLog", "checkReachable", "(I)V"⟩, 9) := ⟨⟨by decide +kernel, by decide +kernel⟩, List.mem_of_getElem? (i := 13) (by decide +kernel), List.mem_of_getElem? (i := 512) (by decide +kernel), List.mem_of_getElem? (i := 513) (by decide +kernel)⟩
theorem lw_p28 : lw_okq (⟨"ParrotLog$Log", "copyStorm", "(I[I[I)I"⟩, 8) := ⟨⟨by decide +kernel, by decide +kernel⟩, List.mem_of_getElem? (i := 21) (by decide +kernel), List.mem_of_getElem? (i := 552) (by decide +kernel), List.mem_of_getElem? (i := 553) (by decide +kernel)⟩
theorem lw_p29 : lw_okq (⟨"ParrotLog$Log", "markAhead", "(I)V"⟩, 8) := ⟨⟨by decide +kernel, by decide +kernel⟩, List.mem_of_getElem? (i := 21) (by decide +kernel), List.mem_of_getElem? (i := 569) (by decide +kernel), List.mem_of_getElem? (i := 570) (by decide +kernel)⟩
def lw_privs_2 : List (MethodName × Nat) := [(⟨"ParrotLog$Log", "countKey", "(I)I"⟩, 8), (⟨"ParrotLog$Log", "countEqual", "([II)I"⟩, 8), (⟨"ParrotLog", "checkStorm", "(I)V"⟩, 9), (⟨"ParrotLog$Log", "countStorm", "(I)I"⟩, 8), (⟨"ParrotLog", "shipNumbered", "(I)LParrotLog$Ship;"⟩, 9), (⟨"ParrotLog", "lag", "(LParrotLog$Ship;)I"⟩, 9), (⟨"ParrotLog", "errorsAfter", "(LParrotLog$Ship;I)I"⟩, 9), (⟨"ParrotLog", "markCompacted", "()V"⟩, 9), (⟨"ParrotLog", "leastShipOffset", "()I"⟩, 9), (⟨"ParrotLog$Log", "markCompacted", "(I)V"⟩, 8), (⟨"ParrotLog$Log", "countMarked", "()I"⟩, 8), (⟨"ParrotLog", "checkReachable", "(I)V"⟩, 9), (⟨"ParrotLog$Log", "copyStorm", "(I[I[I)I"⟩, 8), (⟨"ParrotLog$Log", "markAhead", "(I)V"⟩, 8)]
theorem lw_r2 : ∀ q ∈ lw_privs_2, lw_okq q := List.forall_mem_cons.mpr ⟨lw_p16, List.forall_mem_cons.mpr ⟨lw_p17, List.forall_mem_cons.mpr ⟨lw_p18, List.forall_mem_cons.mpr ⟨lw_p19, List.forall_mem_cons.mpr ⟨lw_p20, List.forall_mem_cons.mpr ⟨lw_p21, List.forall_mem_cons.mpr ⟨lw_p22, List.forall_mem_cons.mpr ⟨lw_p23, List.forall_mem_cons.mpr ⟨lw_p24, List.forall_mem_cons.mpr ⟨lw_p25, List.forall_mem_cons.mpr ⟨lw_p26, List.forall_mem_cons.mpr ⟨lw_p27, List.forall_mem_cons.mpr ⟨lw_p28, List.forall_mem_cons.mpr ⟨lw_p29, fun _ h => absurd h List.not_mem_nil⟩⟩⟩⟩⟩⟩⟩⟩⟩⟩⟩⟩⟩⟩
def lw_privs : List (MethodName × Nat) := lw_privs_1 ++ (lw_privs_2)
def lw_tbl : List Cond := k2_sels lw_privs ++ tables_1
theorem lw_privs_ok : ∀ q ∈ lw_privs, lw_okq q := by
  show ∀ q ∈ lw_privs_1 ++ (lw_privs_2), lw_okq q
  exact List.forall_mem_append.mpr ⟨lw_r1, lw_r2⟩
/-- the streams that the claim lets the run draw from -/
abbrev lw_cs : List Choice := [Jvm.Choice.named "NaN.bits"]
theorem lw_bits : nanBits ∈ lw_cs := by first | decide | exact List.mem_cons_self | simp [lw_cs, nanBits]
end
section
/-! ===== BEGIN words of one list among another's, by their places ===== -/
theorem goodIn_r {big : List Cond} (ws : List Cond) (ps : List Nat) (hp : ws = ps.filterMap (fun i => big[i]?)) (h : ws.all goodWord = true) : GoodIn big ws := by
  intro w hw
  have h1 := List.all_eq_true.mp h w hw
  rw [hp] at hw
  obtain ⟨i, -, hi⟩ := List.mem_filterMap.mp hw
  have hm : w ∈ big := by first | exact List.mem_of_getElem? hi | exact List.getElem?_mem hi
  exact ⟨hm, good_of_word h1⟩
theorem goodIn_app {big a b : List Cond} (ha : GoodIn big a) (hb : GoodIn big b) : GoodIn big (a ++ b) := fun w h => (List.mem_append.mp h).elim (ha w) (hb w)
theorem goodIn_ca {big a b : List Cond} {c : Cond} (ha : GoodIn big (c :: a)) (hb : GoodIn big b) : GoodIn big (c :: (a ++ b)) := fun w h => (List.mem_cons.mp h).elim (fun e => ha w (List.mem_cons.mpr (Or.inl e))) (fun h => (List.mem_append.mp h).elim (fun h => ha w (List.mem_cons.mpr (Or.inr h))) (hb w))
theorem goodIn_sub {big ws : List Cond} (hm : ∀ w ∈ ws, w ∈ big) (h : ws.all goodWord = true) : GoodIn big ws := fun w hw => ⟨hm w hw, good_of_word (List.all_eq_true.mp h w hw)⟩
/-! ===== END ===== -/

/-! ===== BEGIN exceptions that leave a method, and their catching by the caller (launches without stack traces) ===== -/
section VXA
/-! The laws vx_back, vx_callV, vx_callS, vx_callSW, vx_throw0, vx_throwS follow proofs of the library, with one case more: JvmDerived/Free/Laws.lean (Back.of_free), Shelf42/LK1.lean (callV, callS), Shelf/KitTraced.lean (throwNew0V, throwNewS). -/
/-- where a method has thrown q: the class by its name, the cell, what was written, the world -/
def vx_T (XC : String → State → State → Prop) (st : State) (q : Addr) (t : State) (mc ms : Nat) (free : Addr → Prop) : Prop :=
  ∃ (E : String) (ce : Cell) (L : List Loc), XC E st t ∧ t.heap[q]? = some ce ∧ ce.vm = .none ∧ st.vm.findClass E = some ce.cls ∧ st.WarmedH t.vm ∧ st.sameButNew ({ t with vm := st.vm } : State) L mc ms ∧ ∀ z ∈ L, free z.base
def vx_Q (Qc : Array Value → State → Outcome → State → Prop) (XC : String → State → State → Prop) (mc ms : Nat) (free : Addr → Prop) : Array Value → State → Outcome → State → Prop := fun a st o t =>
  (Qc a st o t ∧ ∃ L, FrameEnd st o t L mc ms ∧ ∀ q ∈ L, free q.base) ∨ ∃ q, o = .threw q ∧ vx_T XC st q t mc ms free
/-- a callee that returns or throws -/
def vx_Met (l : Launch) (y : MethodName) (ws : List Cond) (rm : Room) (Pc : Array Value → State → Prop) (Qc : Array Value → State → Outcome → State → Prop) (XC : String → State → State → Prop) (mc ms : Nat) (free : Addr → Prop) : Prop :=
  MetFree l y (headSpec ws rm) Pc (fun _ _ _ _ _ => True) (vx_Q Qc XC mc ms free)
def vx_Post (XC : String → State → State → Prop) (mc ms : Nat) (free : Addr → Prop) : Pt → Array Value → Addr → Pt → Prop := fun A a q B =>
  ∃ (g : JFrame) (mk : MethodId) (t : State) (L : List Loc) (E : String) (ce : Cell), B.U.heap = t.heap ∧ B.U.vm = t.vm ∧ XC E (A.U.calling g mk a) t ∧ t.heap[q]? = some ce ∧ ce.vm = .none ∧ A.U.vm.findClass E = some ce.cls ∧ B.locs = A.locs ++ L ∧ (∀ z ∈ L, free z.base) ∧ B.cells = A.cells + mc ∧ B.slots = A.slots + ms
def vx_Back (l : Launch) (R : Room) (p : Program) (e : Env) (below : List Frame) (s : State) (sargs : Array Value) (y : MethodName) (len W9 : Nat)
    (Pre : Pt → Array Value → Prop) (Post : Pt → Array Value → Option Value → Pt → Prop) (PostX : Pt → Array Value → Addr → Pt → Prop) : Prop :=
  ∀ (m : MethodId) (meth : Method) (c : Code) (A : Pt) (g : JFrame) (ig : Instr) (mk : MethodId) (a : Array Value),
    Stand p l e R s m sargs below meth c A.U A.locs A.cells A.slots → g.method = m → g.locals.size = c.maxLocals → decode c.code g.pc = .ok (ig, len) →
    2 * g.monitorRoom + (g.stack.map fun v => v.category).sum ≤ W9 → A.U.methodNamed? y = some mk → Pre A a →
    (∃ (v : Option Value) (B : Pt), Stand p l e R s m sargs below meth c B.U B.locs B.cells B.slots ∧ Post A a v B ∧
      Steps p.tables e below (doInvoke e (A.U.setTop g) [] mk a).1 (B.U.setTop { g with pc := g.pc + len, stack := v.toList ++ g.stack })) ∨
    (∃ (q : Addr) (B : Pt), Stand p l e R s m sargs below meth c B.U B.locs B.cells B.slots ∧ PostX A a q B ∧
      Steps p.tables e below (doInvoke e (A.U.setTop g) [] mk a).1 ((B.U.setTop g).pushFrame (.throwing q)))
section Payer
variable {l : Launch} {R : Room} {p : Program} {e : Env} {below : List Frame} {s : State} {sargs : Array Value} {y : MethodName} {len W9 : Nat}
theorem vx_back {ws : List Cond} {rm : Room} {Pc : Array Value → State → Prop} {Qc : Array Value → State → Outcome → State → Prop} {XC : String → State → State → Prop} {mc ms : Nat} {free : Addr → Prop} {bytes : ByteArray} {maxL : Nat} {ret : Option FieldType}
    (hM : vx_Met l y ws rm Pc Qc XC mc ms free) (hblind : FrameBlind Pc) (hrc : rm.cells = mc) (hrs : rm.slots = ms)
    (hframes : rm.frames + 1 ≤ R.frames) (hlocals : W9 + (maxL + 11) + rm.locals ≤ R.locals)
    (hws : ∀ w ∈ ws, ∀ a' U, s.WarmedH U.vm → w.before a' U = true) (hcode : Cond.code y bytes maxL ret ∈ ws) (hinit : ∀ a' U, s.WarmedH U.vm → (Cond.initialized y.cls).before a' U = true) :
    vx_Back l R p e below s sargs y len W9 (PreOf R mc ms Pc) (PostOf Qc mc ms free) (vx_Post XC mc ms free) := by
  intro m meth c A g ig mk a X hg hsize hdg hW hn hp
  have h1 : (headSpec ws rm).pre.before a A.U = true := atoms_intro fun w hw => hws w hw _ _ X.warmed
  have h2 : (Cond.code y bytes maxL ret).before a A.U = true := hws _ hcode _ _ X.warmed
  have h3 : (Cond.initialized y.cls).before a A.U = true := hinit _ _ X.warmed
  have h4 : A.cells + (headSpec ws rm).room.cells ≤ R.cells := by rw [show (headSpec ws rm).room.cells = mc from hrc]; exact hp.1
  have h5 : A.slots + (headSpec ws rm).room.slots ≤ R.slots := by rw [show (headSpec ws rm).room.slots = ms from hrs]; exact hp.2.1
  have hPc : Pc a (A.U.calling g mk a) := hblind _ _ _ _ hp.2.2
  obtain ⟨U, Ls, c0, s0⟩ := A
  dsimp only [Pt.U, Pt.locs, Pt.cells, Pt.slots] at h1 h2 h3 h4 h5 X hn hPc ⊢
  obtain ⟨methY, cY, hmY, hcY, -, hlY, -, -, -, -⟩ := Cond.code_spec hn h2
  obtain ⟨kY, hkY, -⟩ := className_of_methodNamed hn
  have hinitY : kY.init = .initialized := Cond.initialized_spec (findClass_of_methodNamed hn) hkY h3
  have h : At U g.method c below := by rw [hg]; exact X.here
  have hlocals9 : W9 + (maxL + 11) + (headSpec ws rm).room.locals ≤ R.locals := hlocals
  have happ : (headSpec ws rm).appliesLoose y e.platform (U.calling g mk a) = true :=
    Spec.appliesLoose_calling (g := g) h hdg hn hkY hinitY
      (X.room_calling (g := g) (R' := (headSpec ws rm).room) hsize hmY hcY hframes (by rw [hlY]; omega) h4 h5) h1
  obtain ⟨mid, hmid⟩ := h.above
  have hfr : (U.setTop g).frames = (.java g :: mid) ++ below := by rw [State.frames_setTop' g h.top, hmid]; rfl
  obtain ⟨o, s₂, hsteps, -, hend, hq⟩ := Steps.callFree hM p X.admits X.cas X.clock (acts := []) hfr happ hPc trivial
  have hq' : vx_Q Qc XC mc ms free a (U.calling g mk a) o s₂ := hq
  rw [State.frames_setTop' g h.top] at hend
  obtain ⟨g₀, hg0⟩ := Option.isSome_iff_exists.mp h.top
  obtain ⟨r, hr⟩ := State.topJava?_eq_some.mp hg0
  have hr' : (({ U with heap := s₂.heap, slotsUsed := s₂.slotsUsed } : State).setVm s₂.vm).frames = .java g₀ :: r := hr
  rcases hq' with ⟨hqc, L, hfe, hL⟩ | ⟨q, rfl, E, ce, L, hx, hce, hcv, hcl, hW₂, hsm, hL⟩
  · obtain ⟨⟨v, rfl⟩, hW₂, e2, q2, q3, q4, q5, q6⟩ := id hfe
    have e3 : s₂ = ({ (U.calling g mk a).setFrames s₂.frames with heap := s₂.heap, slotsUsed := s₂.slotsUsed } : State).setVm s₂.vm := by
      have : s₂ = ({ s₂ with vm := (U.calling g mk a).vm } : State).setVm s₂.vm := rfl
      rw [e2] at this
      exact this
    obtain ⟨c₂, i₂, len₂, hc₂, hd₂, hf₂⟩ := hend
    have hW' : U.WarmedH s₂.vm := hW₂
    have hcc : c₂ = c := by
      have h1 : s₂.code? g.method = U.code? g.method := by
        rw [State.code?_eq, State.code?_eq, hW'.alike.method?]
      exact Option.some.inj (hc₂.symm.trans (h1.trans h.code))
    subst hcc
    have hlen : len₂ = len := by rw [hdg] at hd₂; cases hd₂; rfl
    subst hlen
    have hs₂ : s₂ = (({ U with heap := s₂.heap, slotsUsed := s₂.slotsUsed } : State).setVm s₂.vm).setTop { g with pc := g.pc + len₂, stack := v.toList ++ g.stack } := by
      refine e3.trans ?_
      rw [hf₂, State.calling_eq h.top, State.setFrames_setFrames, State.setTop_of_frames _ hr', hr]
      rfl
    have hsame : U.sameButNew ({ U with heap := s₂.heap, slotsUsed := s₂.slotsUsed } : State) L mc ms := by
      refine ⟨?_, q2, q3, q4, q5, q6⟩
      obtain ⟨t, ht, -⟩ := State.frames_cons hr
      show ({ U with heap := s₂.heap, slotsUsed := s₂.slotsUsed } : State) = { U.setFrames U.frames with heap := s₂.heap, slotsUsed := s₂.slotsUsed }
      rw [State.setFrames_self ht]
    subst hg
    refine Or.inl ⟨v, ⟨(({ U with heap := s₂.heap, slotsUsed := s₂.slotsUsed } : State).setVm s₂.vm), Ls ++ L, c0 + mc, s0 + ms⟩,
      ⟨X.admits, X.cas, X.clock, X.frames, X.room, X.hears, X.method, X.code, (X.here.setHeapUsed s₂.heap s₂.slotsUsed).setVm hW'.alike, X.tail, State.WarmedH.trans X.warmed hW', X.limits, X.bytes, X.same.trans (hsame.setVm s.vm)⟩,
      ⟨g, mk, s₂, L, rfl, rfl, hqc, rfl, hL, rfl, rfl⟩, ?_⟩
    show Steps p.tables e below _ ((({ U with heap := s₂.heap, slotsUsed := s₂.slotsUsed } : State).setVm s₂.vm).setTop { g with pc := g.pc + len₂, stack := v.toList ++ g.stack })
    rw [← hs₂]
    exact hsteps
  · obtain ⟨e2, q2, q3, q4, q5, q6⟩ := id hsm
    have e3 : s₂ = ({ (U.calling g mk a).setFrames s₂.frames with heap := s₂.heap, slotsUsed := s₂.slotsUsed } : State).setVm s₂.vm := by
      have : s₂ = ({ s₂ with vm := (U.calling g mk a).vm } : State).setVm s₂.vm := rfl
      rw [e2] at this
      exact this
    have hf₂ : s₂.frames = .throwing q :: .java g :: U.frames.tail := hend
    have hW' : U.WarmedH s₂.vm := hW₂
    have hs₂ : s₂ = ((({ U with heap := s₂.heap, slotsUsed := s₂.slotsUsed } : State).setVm s₂.vm).setTop g).pushFrame (.throwing q) := by
      refine e3.trans ?_
      rw [hf₂, State.calling_eq h.top, State.setFrames_setFrames, State.pushFrame, State.frames_setTop _ hr', State.setTop_of_frames _ hr', State.setFrames_setFrames, hr]
      rfl
    have hsame : U.sameButNew ({ U with heap := s₂.heap, slotsUsed := s₂.slotsUsed } : State) L mc ms := by
      refine ⟨?_, q2, q3, q4, q5, q6⟩
      obtain ⟨t, ht, -⟩ := State.frames_cons hr
      show ({ U with heap := s₂.heap, slotsUsed := s₂.slotsUsed } : State) = { U.setFrames U.frames with heap := s₂.heap, slotsUsed := s₂.slotsUsed }
      rw [State.setFrames_self ht]
    subst hg
    refine Or.inr ⟨q, ⟨(({ U with heap := s₂.heap, slotsUsed := s₂.slotsUsed } : State).setVm s₂.vm), Ls ++ L, c0 + mc, s0 + ms⟩,
      ⟨X.admits, X.cas, X.clock, X.frames, X.room, X.hears, X.method, X.code, (X.here.setHeapUsed s₂.heap s₂.slotsUsed).setVm hW'.alike, X.tail, State.WarmedH.trans X.warmed hW', X.limits, X.bytes, X.same.trans (hsame.setVm s.vm)⟩,
      ⟨g, mk, s₂, L, E, ce, rfl, rfl, hx, hce, hcv, hcl, rfl, hL, rfl, rfl⟩, ?_⟩
    show Steps p.tables e below _ (((({ U with heap := s₂.heap, slotsUsed := s₂.slotsUsed } : State).setVm s₂.vm).setTop g).pushFrame (.throwing q))
    rw [← hs₂]
    exact hsteps
end Payer
section Calls
variable {p : Program} {l : Launch} {e : Env} {R : Room} {s : State} {m : MethodId} {args : Array Value} {below : List Frame} {meth : Method} {c : Code} {T : State} {locs : List Loc} {cells slots : Nat}
theorem vx_callV (X : Stand p l e R s m args below meth c T locs cells slots) (hexec : p.tables.exec = Jvm.exec) {own C : String} {index : Nat} {y : MethodName} {bytes : ByteArray} {maxL : Nat} {ret : Option FieldType}
    (hown : s.vm.findClass own = some m.cls) (hlink : (Cond.methodLink own index y).before args s = true) (hinst : (Cond.instanceMethod y).before args s = true) (hsel : (Cond.selects C y y).before args s = true)
    (hcode : (Cond.code y bytes maxL ret).before args s = true) (hy : y.cls ≠ "java/lang/invoke/MethodHandle" ∧ y.cls ≠ "java/lang/invoke/VarHandle")
    {W9 : Nat} {Pre : Pt → Array Value → Prop} {Post : Pt → Array Value → Option Value → Pt → Prop} {PostX : Pt → Array Value → Addr → Pt → Prop} (hK : vx_Back l R p e below s args y 3 W9 Pre Post PostX)
    {b : Addr} {cellB : Cell} (hcell : T.heap[b]? = some cellB) (hobj : cellB.vm.isStatics = false) (hcls : s.vm.findClass C = some cellB.cls)
    {g : JFrame} (hg : g.method = m) (hsize : g.locals.size = c.maxLocals) {argsL rest : List Value} (hlen : ∀ sig, parseMethodDescriptor y.desc = some sig → argsL.length = sig.parameters.length)
    (hstack : g.stack = argsL.reverse ++ .ref b :: rest) (hW : 2 * g.monitorRoom + (rest.map fun v => v.category).sum ≤ W9) (hdg : decode c.code g.pc = .ok (.invokevirtual index, 3))
    (hpre : ∀ vm₁, s.WarmedH vm₁ → Pre ⟨T.setVm vm₁, locs, cells, slots⟩ (Value.ref b :: argsL).toArray) :
    (∃ (v : Option Value) (vm₁ : Vm) (B : Pt), s.WarmedH vm₁ ∧ Stand p l e R s m args below meth c B.U B.locs B.cells B.slots ∧ Post ⟨T.setVm vm₁, locs, cells, slots⟩ (Value.ref b :: argsL).toArray v B ∧
      ∀ target, Steps p.tables e below (B.U.setTop { g with pc := g.pc + 3, stack := v.toList ++ rest }) target → Steps p.tables e below (T.setTop g) target) ∨
    (∃ (q : Addr) (vm₁ : Vm) (B : Pt), s.WarmedH vm₁ ∧ Stand p l e R s m args below meth c B.U B.locs B.cells B.slots ∧ PostX ⟨T.setVm vm₁, locs, cells, slots⟩ (Value.ref b :: argsL).toArray q B ∧
      Steps p.tables e below (T.setTop g) ((B.U.setTop { g with stack := rest }).pushFrame (.throwing q))) := by
  obtain ⟨mk, methM, hnamed, hmethM, hstM, habM⟩ := Cond.instanceMethod_spec hinst
  obtain ⟨methM', cM, hmethM', -, -, -, -, -, -, hsigM⟩ := Cond.code_spec hnamed hcode
  cases hmethM.symm.trans hmethM'
  obtain ⟨c2, r2, m2, q1, q2, q3, q4, kP, hkP, hkPi⟩ := Cond.selects_spec hsel
  cases hcls.symm.trans q1
  cases (State.methodFound?_of_named hnamed hy).symm.trans q2
  cases hnamed.symm.trans q3
  have hselP : selectMethod e.platform s.vm cellB.cls mk = .method mk := by rw [Launch.admits_selectMethod X.admits]; exact q4
  obtain ⟨vm₁, X₁, hstep₁⟩ := X.invokevirtual hexec hown hlink hnamed hmethM hstM hkP hkPi hy (a := b) (cell := cellB) hcell
    (fun z h => by rw [h] at hobj; cases hobj) hselP hmethM habM hkP hkPi (g := g) hg (argsL := argsL) (rest := rest) (hlen _ hsigM) hstack hdg
  rcases hK m meth c ⟨T.setVm vm₁, locs, cells, slots⟩ { g with stack := rest } (.invokevirtual index) mk (Value.ref b :: argsL).toArray X₁ hg hsize hdg hW (X₁.named hnamed) (hpre vm₁ X₁.warmed) with ⟨v, B, X', hpost, hsteps⟩ | ⟨q, B, X', hpost, hsteps⟩
  · exact Or.inl ⟨v, vm₁, B, X₁.warmed, X', hpost, fun target h => hstep₁ _ fun acts => by rw [doInvoke_state]; exact hsteps.trans h⟩
  · exact Or.inr ⟨q, vm₁, B, X₁.warmed, X', hpost, hstep₁ _ fun acts => by rw [doInvoke_state]; exact hsteps⟩
theorem vx_callS (X : Stand p l e R s m args below meth c T locs cells slots) (hexec : p.tables.exec = Jvm.exec) {own : String} {index : Nat} {y : MethodName} {bytes : ByteArray} {maxL : Nat} {ret : Option FieldType}
    (hown : s.vm.findClass own = some m.cls) (hlink : (Cond.methodLink own index y).before args s = true) (hstat : (Cond.static y).before args s = true) (hinit : (Cond.initialized y.cls).before args s = true)
    (hcode : (Cond.code y bytes maxL ret).before args s = true) (hy : y.cls ≠ "java/lang/invoke/MethodHandle" ∧ y.cls ≠ "java/lang/invoke/VarHandle")
    {W9 : Nat} {Pre : Pt → Array Value → Prop} {Post : Pt → Array Value → Option Value → Pt → Prop} {PostX : Pt → Array Value → Addr → Pt → Prop} (hK : vx_Back l R p e below s args y 3 W9 Pre Post PostX)
    {g : JFrame} (hg : g.method = m) (hsize : g.locals.size = c.maxLocals) {argsL rest : List Value} (hlen : ∀ sig, parseMethodDescriptor y.desc = some sig → argsL.length = sig.parameters.length)
    (hstack : g.stack = argsL.reverse ++ rest) (hW : 2 * g.monitorRoom + (rest.map fun v => v.category).sum ≤ W9) (hdg : decode c.code g.pc = .ok (.invokestatic index, 3))
    (hpre : ∀ vm₁, s.WarmedH vm₁ → Pre ⟨T.setVm vm₁, locs, cells, slots⟩ argsL.toArray) :
    (∃ (v : Option Value) (vm₁ : Vm) (B : Pt), s.WarmedH vm₁ ∧ Stand p l e R s m args below meth c B.U B.locs B.cells B.slots ∧ Post ⟨T.setVm vm₁, locs, cells, slots⟩ argsL.toArray v B ∧
      ∀ target, Steps p.tables e below (B.U.setTop { g with pc := g.pc + 3, stack := v.toList ++ rest }) target → Steps p.tables e below (T.setTop g) target) ∨
    (∃ (q : Addr) (vm₁ : Vm) (B : Pt), s.WarmedH vm₁ ∧ Stand p l e R s m args below meth c B.U B.locs B.cells B.slots ∧ PostX ⟨T.setVm vm₁, locs, cells, slots⟩ argsL.toArray q B ∧
      Steps p.tables e below (T.setTop g) ((B.U.setTop { g with stack := rest }).pushFrame (.throwing q))) := by
  obtain ⟨mk, hnamed⟩ := Cond.code_named hcode
  obtain ⟨methM, cM, hmethM, -, -, -, -, -, -, hsigM⟩ := Cond.code_spec hnamed hcode
  have hstatic : methM.isStatic = true := Cond.static_spec hnamed hmethM hstat
  obtain ⟨kP, hkP, -⟩ := className_of_methodNamed hnamed
  have hinitP : kP.init = .initialized := Cond.initialized_spec (findClass_of_methodNamed hnamed) hkP hinit
  obtain ⟨vm₁, X₁, hstep₁⟩ := X.invokestatic hexec hown hlink hnamed hmethM hstatic hkP hinitP hy (g := g) hg (argsL := argsL) (rest := rest) (hlen _ hsigM) hstack hdg
  rcases hK m meth c ⟨T.setVm vm₁, locs, cells, slots⟩ { g with stack := rest } (.invokestatic index) mk argsL.toArray X₁ hg hsize hdg hW (X₁.named hnamed) (hpre vm₁ X₁.warmed) with ⟨v, B, X', hpost, hsteps⟩ | ⟨q, B, X', hpost, hsteps⟩
  · exact Or.inl ⟨v, vm₁, B, X₁.warmed, X', hpost, fun target h => hstep₁ _ fun acts => by rw [doInvoke_state]; exact hsteps.trans h⟩
  · exact Or.inr ⟨q, vm₁, B, X₁.warmed, X', hpost, hstep₁ _ fun acts => by rw [doInvoke_state]; exact hsteps⟩
end Calls
theorem vx_cls {s : State} {T : State} {vm₁ : Vm} {E : String} {k : ClassId} (hW : s.WarmedH vm₁) (h : (T.setVm vm₁).vm.findClass E = some k) : s.vm.findClass E = some k := by
  have h1 : vm₁.findClass E = some k := h
  rw [hW.alike.findClass] at h1
  exact h1
/-- the method's frame g, with q thrown over it -/
def vx_W (p : Program) (l : Launch) (e : Env) (R : Room) (s : State) (m : MethodId) (args : Array Value) (below : List Frame) (meth : Method) (c : Code) (H : Heap) (locs : List Loc) (cells slots : Nat) (Q : State → Prop) (g : JFrame) (q : Addr) : Prop :=
  ∀ T : State, T.heap = H → Stand p l e R s m args below meth c T locs cells slots → ∃ t, Steps p.tables e below ((T.setTop g).pushFrame (.throwing q)) t ∧ Q t
def vx_Run (p : Program) (l : Launch) (e : Env) (R : Room) (s : State) (m : MethodId) (args : Array Value) (below : List Frame) (meth : Method) (c : Code) (H : Heap) (locs : List Loc) (cells slots mc ms : Nat) (g : JFrame) (rest : List Value) (Qa : State → Outcome → State → Prop) (XC : String → State → State → Prop) (free : Addr → Prop) : Prop :=
  ∀ T : State, T.heap = H → Stand p l e R s m args below meth c T locs cells slots →
    (∃ (v : Option Value) (st₀ t T' : State) (L : List Loc), st₀.heap = H ∧ Stand p l e R s m args below meth c T' (locs ++ L) (cells + mc) (slots + ms) ∧ (∀ q ∈ L, free q.base) ∧ T'.heap = t.heap ∧ T'.vm = t.vm ∧ Qa st₀ (.returned v) t ∧
      Goes p e below T g T' { g with pc := g.pc + 3, stack := v.toList ++ rest }) ∨
    (∃ (q : Addr) (st₀ t T' : State) (L : List Loc) (E : String) (ce : Cell), st₀.heap = H ∧ Stand p l e R s m args below meth c T' (locs ++ L) (cells + mc) (slots + ms) ∧ (∀ z ∈ L, free z.base) ∧ T'.heap = t.heap ∧ T'.vm = t.vm ∧ XC E st₀ t ∧ t.heap[q]? = some ce ∧ ce.vm = .none ∧ s.vm.findClass E = some ce.cls ∧
      Steps p.tables e below (T.setTop g) ((T'.setTop { g with stack := rest }).pushFrame (.throwing q)))
def vx_X {S : Type} (px : S → Prop) (B : String → S → State → Prop) (A : Nat → Prop) : String → State → State → Prop := fun E st t => ∃ u : S, px u ∧ B E u t ∧ va_F A st t
section Runs
variable {p : Program} {l : Launch} {e : Env} {R : Room} {s : State} {m : MethodId} {args : Array Value} {below : List Frame} {meth : Method} {c : Code} {H : Heap} {locs : List Loc} {cells slots : Nat}
variable {y : MethodName} {bytes cc : ByteArray} {maxL nL mc ms n index : Nat} {ret : Option FieldType} {ws : List Cond} {rm : Room} {Pc : Array Value → State → Prop} {Qc : Array Value → State → Outcome → State → Prop} {XC : String → State → State → Prop} {free : Addr → Prop} {Ts : List Cond} {own C : String} {b : Addr} {As rest : List Value} {g : JFrame}
theorem vx_callBack (cb : CallB R s args own index y bytes maxL ret ws rm mc ms n) (hM : vx_Met l y ws rm Pc Qc XC mc ms free) (hbl : FrameBlind Pc) : vx_Back l R p e below s args y 3 8 (PreOf R mc ms Pc) (PostOf Qc mc ms free) (vx_Post XC mc ms free) := by
  obtain ⟨hrc, hrs, hfr, hlo, hws, hcw, -, hini, -⟩ := cb
  exact vx_back (bytes := bytes) (maxL := maxL) (ret := ret) hM hbl hrc hrs hfr hlo hws hcw (fun a' U hW => word_at hW (Or.inl (by first | rfl | simp [Cond.onTables, Cond.keeps, Cond.steady])) hini)
theorem vx_runV (S : CallFix p m c cc nL s args Ts own) (hM : vx_Met l y ws rm Pc Qc XC mc ms free) (cw : CallW R s args own C index y bytes maxL ret ws rm mc ms n) (hp : PreV s H C b Pc As)
    (hg : g.method = m) (hn : As.length = n) (hsize : g.locals.size = nL) (hstack : g.stack = As.reverse ++ .ref b :: rest) (hW : 2 * g.monitorRoom + (rest.map fun v => v.category).sum ≤ 8) (hdg : decode cc g.pc = .ok (.invokevirtual index, 3)) (hf : cells + mc ≤ R.cells ∧ slots + ms ≤ R.slots) :
    vx_Run p l e R s m args below meth c H locs cells slots mc ms g rest (Qc (Value.ref b :: As).toArray) XC free := by
  have hK : vx_Back l R p e below s args y 3 8 (PreOf R mc ms Pc) (PostOf Qc mc ms free) (vx_Post XC mc ms free) := vx_callBack cw.1 hM hp.1
  obtain ⟨⟨-, -, -, -, -, -, hcode, -, hy, hlen, hl⟩, hin, hse⟩ := cw
  obtain ⟨hx, hb, hml, ho, -⟩ := S
  obtain ⟨-, ⟨cellB, hcB, hoB, hclB⟩, hPc⟩ := hp
  intro T hT X
  rcases vx_callV X hx (C := C) (bytes := bytes) (maxL := maxL) (ret := ret) ho hl hin hse hcode hy hK (by rw [hT]; exact hcB) hoB hclB hg (hsize.trans hml.symm) (argsL := As) (rest := rest) (fun sig h => hn.trans (hlen sig h)) hstack hW (by rw [hb]; exact hdg)
    (fun vm₁ hW₁ => ⟨hf.1, hf.2, hPc (T.setVm vm₁) hT hW₁⟩) with ⟨v, vm₁, ⟨U', l2, c2, s2⟩, hW₁, X', ⟨g', mk, t, L, e1, e2, hq, h1, hL, h2, h3⟩, st⟩ | ⟨q, vm₁, ⟨U', l2, c2, s2⟩, hW₁, X', ⟨g', mk, t, L, E, ce, e1, e2, hq, hce, hcv, hcl, h1, hL, h2, h3⟩, st⟩
  · dsimp only [Pt.U, Pt.locs, Pt.cells, Pt.slots] at X' e1 e2 h1 h2 h3 st
    subst h1; subst h2; subst h3
    exact Or.inl ⟨v, (T.setVm vm₁).calling g' mk (Value.ref b :: As).toArray, t, U', L, hT, X', hL, e1, e2, hq, st⟩
  · dsimp only [Pt.U, Pt.locs, Pt.cells, Pt.slots] at X' e1 e2 h1 h2 h3 st hcl
    subst h1; subst h2; subst h3
    exact Or.inr ⟨q, (T.setVm vm₁).calling g' mk (Value.ref b :: As).toArray, t, U', L, E, ce, hT, X', hL, e1, e2, hq, hce, hcv, vx_cls hW₁ hcl, st⟩
theorem vx_runS (S : CallFix p m c cc nL s args Ts own) (hM : vx_Met l y ws rm Pc Qc XC mc ms free) (cw : CallB R s args own index y bytes maxL ret ws rm mc ms n ∧ (Cond.static y).before args s = true) (hp : PreS s H Pc As)
    (hg : g.method = m) (hn : As.length = n) (hsize : g.locals.size = nL) (hstack : g.stack = As.reverse ++ rest) (hW : 2 * g.monitorRoom + (rest.map fun v => v.category).sum ≤ 8) (hdg : decode cc g.pc = .ok (.invokestatic index, 3)) (hf : cells + mc ≤ R.cells ∧ slots + ms ≤ R.slots) :
    vx_Run p l e R s m args below meth c H locs cells slots mc ms g rest (Qc As.toArray) XC free := by
  have hK : vx_Back l R p e below s args y 3 8 (PreOf R mc ms Pc) (PostOf Qc mc ms free) (vx_Post XC mc ms free) := vx_callBack cw.1 hM hp.1
  obtain ⟨⟨-, -, -, -, -, -, hcode, hini, hy, hlen, hl⟩, hstt⟩ := cw
  obtain ⟨hx, hb, hml, ho, -⟩ := S
  intro T hT X
  rcases vx_callS X hx (bytes := bytes) (maxL := maxL) (ret := ret) ho hl hstt hini hcode hy hK hg (hsize.trans hml.symm) (argsL := As) (rest := rest) (fun sig h => hn.trans (hlen sig h)) hstack hW (by rw [hb]; exact hdg)
    (fun vm₁ hW₁ => ⟨hf.1, hf.2, hp.2 (T.setVm vm₁) hT hW₁⟩) with ⟨v, vm₁, ⟨U', l2, c2, s2⟩, hW₁, X', ⟨g', mk, t, L, e1, e2, hq, h1, hL, h2, h3⟩, st⟩ | ⟨q, vm₁, ⟨U', l2, c2, s2⟩, hW₁, X', ⟨g', mk, t, L, E, ce, e1, e2, hq, hce, hcv, hcl, h1, hL, h2, h3⟩, st⟩
  · dsimp only [Pt.U, Pt.locs, Pt.cells, Pt.slots] at X' e1 e2 h1 h2 h3 st
    subst h1; subst h2; subst h3
    exact Or.inl ⟨v, (T.setVm vm₁).calling g' mk As.toArray, t, U', L, hT, X', hL, e1, e2, hq, st⟩
  · dsimp only [Pt.U, Pt.locs, Pt.cells, Pt.slots] at X' e1 e2 h1 h2 h3 st hcl
    subst h1; subst h2; subst h3
    exact Or.inr ⟨q, (T.setVm vm₁).calling g' mk As.toArray, t, U', L, E, ce, hT, X', hL, e1, e2, hq, hce, hcv, vx_cls hW₁ hcl, st⟩
end Runs
section Rows
variable {p : Program} {l : Launch} {e : Env} {R : Room} {s : State} {m : MethodId} {args : Array Value} {below : List Frame} {meth : Method} {c : Code} {H : Heap} {locs : List Loc} {cells slots : Nat} {Q : State → Prop}
variable {mc ms : Nat} {free : Addr → Prop} {A0 A1 : Nat → Prop} {H0 : Heap} {a : Array Value} {pc : Nat} {ls : Array Slot} {st0 rest : List Value}
theorem vx_keep {st₀ t T' : State} {L : List Loc} (h0 : st₀.heap = H) (e1 : T'.heap = t.heap) (hS : va_S A0 H0 H locs) (hA : ∀ q, q < H.size → A1 q → A0 q) (hf : ∀ q, free q → A0 q) (hL : ∀ q ∈ L, free q.base) (hF : va_F A1 st₀ t) :
    H.size ≤ T'.heap.size ∧ (∀ q : Nat, q < H.size → ¬ A1 q → T'.heap[q]? = H[q]?) ∧ va_S A0 H0 T'.heap (locs ++ L) := by
  obtain ⟨hz, hk⟩ := hF
  rw [h0] at hz hk
  exact ⟨by rw [e1]; exact hz, fun q h1 h2 => by rw [e1]; exact hk q h1 h2,
    ⟨Nat.le_trans hS.1 (by rw [e1]; exact hz), fun q h1 h2 => by rw [e1, hk q (Nat.lt_of_lt_of_le h1 hS.1) (fun z => h2 (hA q (Nat.lt_of_lt_of_le h1 hS.1) z))]; exact hS.2.1 q h1 h2, fun q hq => by
      rcases List.mem_append.mp hq with h | h
      · exact hS.2.2 q h
      · exact hf _ (hL q h)⟩⟩
theorem vx_calli {S SX : Type} {post : Int32 → S → Prop} {px : SX → Prop} {B : S → State → Prop} {BX : String → SX → State → Prop} {AX : Nat → Prop} (hr : vx_Run p l e R s m args below meth c H locs cells slots mc ms (F0 m pc ls st0) rest (va_Qi post B A1 a) (vx_X px BX AX) free) (hS : va_S A0 H0 H locs) (hA : ∀ q, q < H.size → A1 q → A0 q) (hf : ∀ q, free q → A0 q) (hAX : ∀ q, q < H.size → AX q → A0 q)
    (kx : ∀ (E : String) (ce : Cell) (q9 : Addr) (u : SX) (t : State) (H1 : Heap) (locs1 : List Loc), t.heap = H1 → s.vm.Alike t.vm → px u → BX E u t → H.size ≤ H1.size → (∀ q : Nat, q < H.size → ¬ AX q → H1[q]? = H[q]?) → va_S A0 H0 H1 locs1 → H1[q9]? = some ce → ce.vm = .none → s.vm.findClass E = some ce.cls → vx_W p l e R s m args below meth c H1 locs1 (cells + mc) (slots + ms) Q (F0 m pc ls rest) q9)
    (kk : ∀ (r : Int32) (u : S) (t : State) (H1 : Heap) (locs1 : List Loc), t.heap = H1 → s.vm.Alike t.vm → post r u → B u t → H.size ≤ H1.size → (∀ q : Nat, q < H.size → ¬ A1 q → H1[q]? = H[q]?) → va_S A0 H0 H1 locs1 → W p l e R s m args below meth c H1 locs1 (cells + mc) (slots + ms) Q (F0 m (pc + 3) ls (.int r :: rest))) : W p l e R s m args below meth c H locs cells slots Q (F0 m pc ls st0) := by
  intro T hT X
  rcases hr T hT X with ⟨v, st₀, t, T', L, h0, X', hL, e1, e2, ⟨⟨r, u, hv, hp, hb⟩, hF⟩, st⟩ | ⟨q, st₀, t, T', L, E, ce, h0, X', hL, e1, e2, ⟨u, hp, hb, hF⟩, hce, hcv, hcl, st⟩
  · cases hv
    obtain ⟨k1, k2, k3⟩ := vx_keep h0 e1 hS hA hf hL hF
    obtain ⟨t2, a1, b1⟩ := kk r u t T'.heap (locs ++ L) e1.symm (by rw [← e2]; exact X'.warmed.alike) hp hb k1 k2 k3 T' rfl X'
    exact ⟨t2, st t2 a1, b1⟩
  · obtain ⟨k1, k2, k3⟩ := vx_keep h0 e1 hS hAX hf hL hF
    obtain ⟨t2, a1, b1⟩ := kx E ce q u t T'.heap (locs ++ L) e1.symm (by rw [← e2]; exact X'.warmed.alike) hp hb k1 k2 k3 (by rw [e1]; exact hce) hcv hcl T' rfl X'
    exact ⟨t2, st.trans a1, b1⟩
theorem vx_calll {S SX : Type} {post : Int64 → S → Prop} {px : SX → Prop} {B : S → State → Prop} {BX : String → SX → State → Prop} {AX : Nat → Prop} (hr : vx_Run p l e R s m args below meth c H locs cells slots mc ms (F0 m pc ls st0) rest (va_Ql post B A1 a) (vx_X px BX AX) free) (hS : va_S A0 H0 H locs) (hA : ∀ q, q < H.size → A1 q → A0 q) (hf : ∀ q, free q → A0 q) (hAX : ∀ q, q < H.size → AX q → A0 q)
    (kx : ∀ (E : String) (ce : Cell) (q9 : Addr) (u : SX) (t : State) (H1 : Heap) (locs1 : List Loc), t.heap = H1 → s.vm.Alike t.vm → px u → BX E u t → H.size ≤ H1.size → (∀ q : Nat, q < H.size → ¬ AX q → H1[q]? = H[q]?) → va_S A0 H0 H1 locs1 → H1[q9]? = some ce → ce.vm = .none → s.vm.findClass E = some ce.cls → vx_W p l e R s m args below meth c H1 locs1 (cells + mc) (slots + ms) Q (F0 m pc ls rest) q9)
    (kk : ∀ (r : Int64) (u : S) (t : State) (H1 : Heap) (locs1 : List Loc), t.heap = H1 → s.vm.Alike t.vm → post r u → B u t → H.size ≤ H1.size → (∀ q : Nat, q < H.size → ¬ A1 q → H1[q]? = H[q]?) → va_S A0 H0 H1 locs1 → W p l e R s m args below meth c H1 locs1 (cells + mc) (slots + ms) Q (F0 m (pc + 3) ls (.long r :: rest))) : W p l e R s m args below meth c H locs cells slots Q (F0 m pc ls st0) := by
  intro T hT X
  rcases hr T hT X with ⟨v, st₀, t, T', L, h0, X', hL, e1, e2, ⟨⟨r, u, hv, hp, hb⟩, hF⟩, st⟩ | ⟨q, st₀, t, T', L, E, ce, h0, X', hL, e1, e2, ⟨u, hp, hb, hF⟩, hce, hcv, hcl, st⟩
  · cases hv
    obtain ⟨k1, k2, k3⟩ := vx_keep h0 e1 hS hA hf hL hF
    obtain ⟨t2, a1, b1⟩ := kk r u t T'.heap (locs ++ L) e1.symm (by rw [← e2]; exact X'.warmed.alike) hp hb k1 k2 k3 T' rfl X'
    exact ⟨t2, st t2 a1, b1⟩
  · obtain ⟨k1, k2, k3⟩ := vx_keep h0 e1 hS hAX hf hL hF
    obtain ⟨t2, a1, b1⟩ := kx E ce q u t T'.heap (locs ++ L) e1.symm (by rw [← e2]; exact X'.warmed.alike) hp hb k1 k2 k3 (by rw [e1]; exact hce) hcv hcl T' rfl X'
    exact ⟨t2, st.trans a1, b1⟩
theorem vx_callf {S SX : Type} {post : UInt32 → S → Prop} {px : SX → Prop} {B : S → State → Prop} {BX : String → SX → State → Prop} {AX : Nat → Prop} (hr : vx_Run p l e R s m args below meth c H locs cells slots mc ms (F0 m pc ls st0) rest (va_Qf post B A1 a) (vx_X px BX AX) free) (hS : va_S A0 H0 H locs) (hA : ∀ q, q < H.size → A1 q → A0 q) (hf : ∀ q, free q → A0 q) (hAX : ∀ q, q < H.size → AX q → A0 q)
    (kx : ∀ (E : String) (ce : Cell) (q9 : Addr) (u : SX) (t : State) (H1 : Heap) (locs1 : List Loc), t.heap = H1 → s.vm.Alike t.vm → px u → BX E u t → H.size ≤ H1.size → (∀ q : Nat, q < H.size → ¬ AX q → H1[q]? = H[q]?) → va_S A0 H0 H1 locs1 → H1[q9]? = some ce → ce.vm = .none → s.vm.findClass E = some ce.cls → vx_W p l e R s m args below meth c H1 locs1 (cells + mc) (slots + ms) Q (F0 m pc ls rest) q9)
    (kk : ∀ (r : UInt32) (u : S) (t : State) (H1 : Heap) (locs1 : List Loc), t.heap = H1 → s.vm.Alike t.vm → post r u → B u t → H.size ≤ H1.size → (∀ q : Nat, q < H.size → ¬ A1 q → H1[q]? = H[q]?) → va_S A0 H0 H1 locs1 → W p l e R s m args below meth c H1 locs1 (cells + mc) (slots + ms) Q (F0 m (pc + 3) ls (.float r :: rest))) : W p l e R s m args below meth c H locs cells slots Q (F0 m pc ls st0) := by
  intro T hT X
  rcases hr T hT X with ⟨v, st₀, t, T', L, h0, X', hL, e1, e2, ⟨⟨r, u, hv, hp, hb⟩, hF⟩, st⟩ | ⟨q, st₀, t, T', L, E, ce, h0, X', hL, e1, e2, ⟨u, hp, hb, hF⟩, hce, hcv, hcl, st⟩
  · cases hv
    obtain ⟨k1, k2, k3⟩ := vx_keep h0 e1 hS hA hf hL hF
    obtain ⟨t2, a1, b1⟩ := kk r u t T'.heap (locs ++ L) e1.symm (by rw [← e2]; exact X'.warmed.alike) hp hb k1 k2 k3 T' rfl X'
    exact ⟨t2, st t2 a1, b1⟩
  · obtain ⟨k1, k2, k3⟩ := vx_keep h0 e1 hS hAX hf hL hF
    obtain ⟨t2, a1, b1⟩ := kx E ce q u t T'.heap (locs ++ L) e1.symm (by rw [← e2]; exact X'.warmed.alike) hp hb k1 k2 k3 (by rw [e1]; exact hce) hcv hcl T' rfl X'
    exact ⟨t2, st.trans a1, b1⟩
theorem vx_calld {S SX : Type} {post : UInt64 → S → Prop} {px : SX → Prop} {B : S → State → Prop} {BX : String → SX → State → Prop} {AX : Nat → Prop} (hr : vx_Run p l e R s m args below meth c H locs cells slots mc ms (F0 m pc ls st0) rest (va_Qd post B A1 a) (vx_X px BX AX) free) (hS : va_S A0 H0 H locs) (hA : ∀ q, q < H.size → A1 q → A0 q) (hf : ∀ q, free q → A0 q) (hAX : ∀ q, q < H.size → AX q → A0 q)
    (kx : ∀ (E : String) (ce : Cell) (q9 : Addr) (u : SX) (t : State) (H1 : Heap) (locs1 : List Loc), t.heap = H1 → s.vm.Alike t.vm → px u → BX E u t → H.size ≤ H1.size → (∀ q : Nat, q < H.size → ¬ AX q → H1[q]? = H[q]?) → va_S A0 H0 H1 locs1 → H1[q9]? = some ce → ce.vm = .none → s.vm.findClass E = some ce.cls → vx_W p l e R s m args below meth c H1 locs1 (cells + mc) (slots + ms) Q (F0 m pc ls rest) q9)
    (kk : ∀ (r : UInt64) (u : S) (t : State) (H1 : Heap) (locs1 : List Loc), t.heap = H1 → s.vm.Alike t.vm → post r u → B u t → H.size ≤ H1.size → (∀ q : Nat, q < H.size → ¬ A1 q → H1[q]? = H[q]?) → va_S A0 H0 H1 locs1 → W p l e R s m args below meth c H1 locs1 (cells + mc) (slots + ms) Q (F0 m (pc + 3) ls (.double r :: rest))) : W p l e R s m args below meth c H locs cells slots Q (F0 m pc ls st0) := by
  intro T hT X
  rcases hr T hT X with ⟨v, st₀, t, T', L, h0, X', hL, e1, e2, ⟨⟨r, u, hv, hp, hb⟩, hF⟩, st⟩ | ⟨q, st₀, t, T', L, E, ce, h0, X', hL, e1, e2, ⟨u, hp, hb, hF⟩, hce, hcv, hcl, st⟩
  · cases hv
    obtain ⟨k1, k2, k3⟩ := vx_keep h0 e1 hS hA hf hL hF
    obtain ⟨t2, a1, b1⟩ := kk r u t T'.heap (locs ++ L) e1.symm (by rw [← e2]; exact X'.warmed.alike) hp hb k1 k2 k3 T' rfl X'
    exact ⟨t2, st t2 a1, b1⟩
  · obtain ⟨k1, k2, k3⟩ := vx_keep h0 e1 hS hAX hf hL hF
    obtain ⟨t2, a1, b1⟩ := kx E ce q u t T'.heap (locs ++ L) e1.symm (by rw [← e2]; exact X'.warmed.alike) hp hb k1 k2 k3 (by rw [e1]; exact hce) hcv hcl T' rfl X'
    exact ⟨t2, st.trans a1, b1⟩
theorem vx_callv {S SX : Type} {post : S → Prop} {px : SX → Prop} {B : S → State → Prop} {BX : String → SX → State → Prop} {AX : Nat → Prop} (hr : vx_Run p l e R s m args below meth c H locs cells slots mc ms (F0 m pc ls st0) rest (va_Qv post B A1 a) (vx_X px BX AX) free) (hS : va_S A0 H0 H locs) (hA : ∀ q, q < H.size → A1 q → A0 q) (hf : ∀ q, free q → A0 q) (hAX : ∀ q, q < H.size → AX q → A0 q)
    (kx : ∀ (E : String) (ce : Cell) (q9 : Addr) (u : SX) (t : State) (H1 : Heap) (locs1 : List Loc), t.heap = H1 → s.vm.Alike t.vm → px u → BX E u t → H.size ≤ H1.size → (∀ q : Nat, q < H.size → ¬ AX q → H1[q]? = H[q]?) → va_S A0 H0 H1 locs1 → H1[q9]? = some ce → ce.vm = .none → s.vm.findClass E = some ce.cls → vx_W p l e R s m args below meth c H1 locs1 (cells + mc) (slots + ms) Q (F0 m pc ls rest) q9)
    (kk : ∀ (u : S) (t : State) (H1 : Heap) (locs1 : List Loc), t.heap = H1 → s.vm.Alike t.vm → post u → B u t → H.size ≤ H1.size → (∀ q : Nat, q < H.size → ¬ A1 q → H1[q]? = H[q]?) → va_S A0 H0 H1 locs1 → W p l e R s m args below meth c H1 locs1 (cells + mc) (slots + ms) Q (F0 m (pc + 3) ls (rest))) : W p l e R s m args below meth c H locs cells slots Q (F0 m pc ls st0) := by
  intro T hT X
  rcases hr T hT X with ⟨v, st₀, t, T', L, h0, X', hL, e1, e2, ⟨⟨u, hv, hp, hb⟩, hF⟩, st⟩ | ⟨q, st₀, t, T', L, E, ce, h0, X', hL, e1, e2, ⟨u, hp, hb, hF⟩, hce, hcv, hcl, st⟩
  · cases hv
    obtain ⟨k1, k2, k3⟩ := vx_keep h0 e1 hS hA hf hL hF
    obtain ⟨t2, a1, b1⟩ := kk u t T'.heap (locs ++ L) e1.symm (by rw [← e2]; exact X'.warmed.alike) hp hb k1 k2 k3 T' rfl X'
    exact ⟨t2, st t2 a1, b1⟩
  · obtain ⟨k1, k2, k3⟩ := vx_keep h0 e1 hS hAX hf hL hF
    obtain ⟨t2, a1, b1⟩ := kx E ce q u t T'.heap (locs ++ L) e1.symm (by rw [← e2]; exact X'.warmed.alike) hp hb k1 k2 k3 (by rw [e1]; exact hce) hcv hcl T' rfl X'
    exact ⟨t2, st.trans a1, b1⟩
/-- caught by the row x of this method's table; the rows ahead don't take it -/
theorem vx_catch {own name : String} {E : String} {ce : Cell} {q : Addr} (hown : s.vm.findClass own = some m.cls) (pre : List ExceptionTableEntry) (x : ExceptionTableEntry) (suf : List ExceptionTableEntry) (hsplit : c.exceptionTable.toList = pre ++ x :: suf)
    (hpass : ∀ z ∈ pre, covers z pc = false ∨ (z.catchType ≠ 0 ∧ ∃ nm : String, (Cond.classLink own z.catchType nm).before args s = true ∧ va_Nc E nm s)) (hx : covers x pc = true) (h0 : x.catchType ≠ 0)
    (hlink : (Cond.classLink own x.catchType name).before args s = true) (hcast : (Cond.castable E name).before args s = true) (hcell : H[q]? = some ce) (hv : ce.vm = .none) (hcl : s.vm.findClass E = some ce.cls)
    (kk : W p l e R s m args below meth c H locs cells slots Q (F0 m x.handlerPc ls [.ref q])) : vx_W p l e R s m args below meth c H locs cells slots Q (F0 m pc ls rest) q := by
  intro T hT X
  have hpl : e.platform.magicAccessors = ({} : Platform).magicAccessors := by rw [X.admits.platform]
  obtain ⟨c3, c4, hc3, hc4, hasg⟩ := Cond.castable_spec hcast
  cases Option.some.inj (hc3.symm.trans hcl)
  obtain ⟨c5, hc5, hcl5⟩ := Cond.classLink_spec hown hlink e.platform hpl
  cases Option.some.inj (hc4.symm.trans hc5)
  obtain ⟨vm', X', st⟩ := X.thenCaughtThrough q (g := F0 m pc ls rest) rfl (Steps.refl _) (by rw [hT]; exact hcell) (by rw [hv]; rfl) (by obtain ⟨k9, h9, -⟩ := Vm.findClass_spec hcl; exact ⟨k9, h9⟩) pre x suf hsplit
    (fun z hz => by
      rcases hpass z hz with h | ⟨hz0, nm, hl1, hn1⟩
      · exact Or.inl h
      · obtain ⟨c6, hc6, hcl6⟩ := Cond.classLink_spec hown hl1 e.platform hpl
        obtain ⟨a8, b8, h1, h2, h3⟩ := hn1
        cases Option.some.inj (h1.symm.trans hcl)
        cases Option.some.inj (h2.symm.trans hc6)
        exact Or.inr ⟨hz0, _, hcl6, h3⟩) hx (Or.inr ⟨h0, c4, hcl5, hasg⟩)
  obtain ⟨t, a1, b1⟩ := kk (T.setVm vm') hT X'
  exact ⟨t, st.trans a1, b1⟩
end Rows
section Ends
variable {p : Program} {l : Launch} {e : Env} {R : Room} {s : State} {m : MethodId} {args : Array Value} {below : List Frame} {meth : Method} {c : Code} {H : Heap} {locs : List Loc} {cells slots : Nat} {Q : State → Prop}
variable {mc ms : Nat} {free : Addr → Prop} {A0 A1 : Nat → Prop} {H0 : Heap} {a : Array Value} {ls : Array Slot} {st0 rest : List Value}
variable {Qc : Array Value → State → Outcome → State → Prop} {XC : String → State → State → Prop}
/-- what a body that may throw owes at its end -/
def vx_MQ (below : List Frame) (Qc : Array Value → State → Outcome → State → Prop) (XC : String → State → State → Prop) (a : Array Value) (s : State) (mc ms : Nat) (free : Addr → Prop) : State → Prop := fun t =>
  ∃ o, t.status = .running ∧ Ended t below o ∧ vx_Q Qc XC mc ms free a s o t
theorem vx_ret {g : JFrame} {mc ms : Nat} (k : W p l e R s m args below meth c H locs cells slots (MQ below Qc args s mc ms free) g) : W p l e R s m args below meth c H locs cells slots (vx_MQ below Qc XC args s mc ms free) g := by
  intro T hT X
  obtain ⟨t, a1, o, b1, b2, b3, b4⟩ := k T hT X
  exact ⟨t, a1, o, b1, b2, Or.inl ⟨b3, b4⟩⟩
/-- not caught here: it goes on to the caller -/
theorem vx_widen {g : JFrame} {q : Addr} {k n : Nat} (h1 : cells ≤ k) (h2 : slots ≤ n) (kk : vx_W p l e R s m args below meth c H locs k n Q g q) : vx_W p l e R s m args below meth c H locs cells slots Q g q := fun T hT X => kk T hT (stand_widen X h1 h2)
theorem vx_out {pc : Nat} {E : String} {ce : Cell} {q : Addr} {mc ms : Nat} (hout : ∀ x ∈ c.exceptionTable.toList, covers x pc = false) (hlocks : meth.locks = false) (hcell : H[q]? = some ce) (hv : ce.vm = .none) (hcl : s.vm.findClass E = some ce.cls)
    (hx : ∀ t : State, t.heap = H → s.vm.Alike t.vm → XC E s t) (hf : ∀ z ∈ locs, free z.base) (hc : cells ≤ mc) (hs : slots ≤ ms) :
    vx_W p l e R s m args below meth c H locs cells slots (vx_MQ below Qc XC args s mc ms free) (F0 m pc ls rest) q := by
  intro T hT X
  obtain ⟨st1, hrun, hend, hW, hsm⟩ := X.leaveThrown q (g := F0 m pc ls rest) rfl rfl rfl hout hlocks
  have hcell9 : (T.setFrames (.throwing q :: below)).heap[q]? = some ce := by
    show T.heap[q]? = some ce
    rw [hT]; exact hcell
  exact ⟨_, st1, .threw q, hrun, hend, Or.inr ⟨q, rfl, E, ce, locs, hx _ hT hW.alike, hcell9, hv, hcl, hW, hsm.mono hc hs, hf⟩⟩
theorem vx_frame {U : State} {k n : Nat} (h : s.sameButNew ({ U with vm := s.vm } : State) locs k n) : s.heap.size ≤ U.heap.size ∧ ∀ q : Nat, q < s.heap.size → (∀ z ∈ locs, z.base ≠ q) → U.heap[q]? = s.heap[q]? := by
  obtain ⟨-, h2, -, -, -, h6⟩ := h
  refine ⟨h2, fun q hq hz => ?_⟩
  obtain ⟨c9, e1, e2, e3, e4⟩ := h6 q _ (Array.getElem?_eq_getElem hq)
  have hs : c9.slots = (s.heap[q]).slots := Array.ext_getElem? fun i => e4 i fun hm => hz _ hm rfl
  have h9 : c9 = s.heap[q] := by
    rw [hs] at e2
    exact e2
  have e5 : U.heap[q]? = some c9 := e1
  rw [e5, h9, Array.getElem?_eq_getElem hq]
/-- the words of a throw but the four that speak of the heap -/
def vx_no (w : Cond) : Bool := decide (w ≠ .isRef (.static Bundle.tN "UNASSIGNED_STACK" Bundle.steD)) && decide (w ≠ .isRef (.static Bundle.tN "SUPPRESSED_SENTINEL" Bundle.listD)) && decide (w ≠ .laysStatic Bundle.tN "UNASSIGNED_STACK" Bundle.steD) && decide (w ≠ .laysStatic Bundle.tN "SUPPRESSED_SENTINEL" Bundle.listD)
def vx_at0 (own : String) (ic : Nat) (X : String) (names : List String) : List Cond := (Bundle.ownAtoms0 own ic X names).filter vx_no
def vx_atS (own : String) (ic : Nat) (X : String) (names : List String) : List Cond := (Bundle.ownAtoms own ic X names).filter vx_no
/-- a word that the tables alone decide, or a good one -/
def vx_ot (w : Cond) : Bool := w.onTables || goodWord w
theorem vx_ot_at {args a' : Array Value} {s U : State} {w : Cond} (hW : s.WarmedH U.vm) (hvm : s.vm = U.vm) (hg : vx_ot w = true) (h : w.before args s = true) : w.before a' U = true := by
  simp only [vx_ot, Bool.or_eq_true] at hg
  rcases hg with hg | hg
  · exact va_tabs hg hvm h
  · exact word_at hW (good_of_word hg) h
/-- a list's words: the good ones out of the method's own list, the others by premises of their own -/
theorem vx_hat {args : Array Value} {s : State} {L B : List Cond} (h1 : ∀ w ∈ L.filter goodWord, w.before args s = true) (h2 : ∀ w ∈ L.filter (fun w => !goodWord w), w ∈ B) (h3 : ∀ w ∈ B, w.before args s = true) : ∀ w ∈ L, w.before args s = true := by
  intro w hw
  by_cases g : goodWord w = true
  · exact h1 w (List.mem_filter.mpr ⟨hw, g⟩)
  · refine h3 w (h2 w (List.mem_filter.mpr ⟨hw, ?_⟩))
    show (!goodWord w) = true
    cases hgw : goodWord w
    · rfl
    · exact absurd hgw g
theorem vx_c {args : Array Value} {s : State} {w : Cond} {B : List Cond} (h : w.before args s = true) (t : ∀ w ∈ B, w.before args s = true) : ∀ w' ∈ w :: B, w'.before args s = true := fun w' h' => (List.mem_cons.mp h').elim (fun e => by rw [e]; exact h) (t w')
theorem vx_n {args : Array Value} {s : State} : ∀ w ∈ ([] : List Cond), w.before args s = true := fun _ h => nomatch h
theorem vx_own {args : Array Value} {s : State} {L : List Cond} (h1 : ∀ w ∈ L.filter vx_no, w.before args s = true)
    (hU : (Cond.isRef (.static Bundle.tN "UNASSIGNED_STACK" Bundle.steD)).before args s = true) (hN : (Cond.isRef (.static Bundle.tN "SUPPRESSED_SENTINEL" Bundle.listD)).before args s = true)
    (lU : (Cond.laysStatic Bundle.tN "UNASSIGNED_STACK" Bundle.steD).before args s = true) (lN : (Cond.laysStatic Bundle.tN "SUPPRESSED_SENTINEL" Bundle.listD).before args s = true) : ∀ w ∈ L, w.before args s = true := by
  intro w hw
  by_cases e1 : w = .isRef (.static Bundle.tN "UNASSIGNED_STACK" Bundle.steD)
  · rw [e1]; exact hU
  · by_cases e2 : w = .isRef (.static Bundle.tN "SUPPRESSED_SENTINEL" Bundle.listD)
    · rw [e2]; exact hN
    · by_cases e3 : w = .laysStatic Bundle.tN "UNASSIGNED_STACK" Bundle.steD
      · rw [e3]; exact lU
      · by_cases e4 : w = .laysStatic Bundle.tN "SUPPRESSED_SENTINEL" Bundle.listD
        · rw [e4]; exact lN
        · exact h1 w (List.mem_filter.mpr ⟨hw, by unfold vx_no; rw [decide_eq_true e1, decide_eq_true e2, decide_eq_true e3, decide_eq_true e4]; rfl⟩)
/-- where a static field lies, its class's statics cell in H -/
def vx_L (C n d : String) (A : Nat → Prop) (U : State) (H : Heap) : Prop := ∃ (c : ClassId) (k : Class) (i : Nat) (f : Field) (a : Nat) (cell : Cell), U.vm.findClass C = some c ∧ U.fieldFound? C n d = some (c, k, i, f) ∧ f.isStatic = true ∧ k.statics = some a ∧ H[a]? = some cell ∧ cell.vm.isStatics = true ∧ cell.cls = c ∧ f.slot < cell.slots.size ∧ k.staticTypes[f.slot]? = some f.type ∧ ¬ A a
theorem vx_L.moved {C n d : String} {A : Nat → Prop} {u U : State} {H : Heap} (hvm : u.vm.Alike U.vm) (h : vx_L C n d A u H) : vx_L C n d A U H := by
  obtain ⟨c, k, i, f, a, cell, h1, h2, h3, h4, h5, h6, h7, h8, h9, h10⟩ := h
  obtain ⟨k', hi', he⟩ := State.fieldFound?_setVm hvm h2
  exact ⟨c, k', i, f, a, cell, by rw [hvm.findClass]; exact h1, hi', h3, by rw [he]; exact h4, h5, h6, h7, h8, by rw [he]; exact h9, h10⟩
theorem vx_L.kept {C n d : String} {A : Nat → Prop} {U : State} {H H1 : Heap} (h : vx_L C n d A U H) (hq : ∀ a : Nat, a < H.size → ¬ A a → H1[a]? = H[a]?) : vx_L C n d A U H1 := by
  obtain ⟨c, k, i, f, a, cell, h1, h2, h3, h4, h5, h6, h7, h8, h9, h10⟩ := h
  exact ⟨c, k, i, f, a, cell, h1, h2, h3, h4, by rw [hq a (Array.getElem?_eq_some_iff.mp h5).1 h10]; exact h5, h6, h7, h8, h9, h10⟩
theorem vx_L.narrow {C n d : String} {A B : Nat → Prop} {U : State} {H : Heap} (h : vx_L C n d A U H) (hAB : ∀ q, B q → A q) : vx_L C n d B U H := by
  obtain ⟨c, k, i, f, a, cell, h1, h2, h3, h4, h5, h6, h7, h8, h9, h10⟩ := h
  exact ⟨c, k, i, f, a, cell, h1, h2, h3, h4, h5, h6, h7, h8, h9, fun z => h10 (hAB _ z)⟩
theorem vx_L.word {C n d : String} {A : Nat → Prop} {s : State} {args : Array Value} (h : vx_L C n d A s s.heap) : (Cond.laysStatic C n d).before args s = true := by
  obtain ⟨c, k, i, f, a, cell, h1, h2, h3, h4, h5, h6, h7, h8, h9, -⟩ := h
  show (Cond.laysStatic C n d).holds args s none s [] = true
  exact Cond.laysStatic_of h1 h2 h3 h4 h5 h6 h7 h8 h9
/-- .. and what it holds: null or some reference -/
def vx_Zq (C n d : String) (A : Nat → Prop) (U : State) (H : Heap) : Prop := va_Zq C n d A U H ∧ vx_L C n d A U H
theorem vx_Zq.moved {C n d : String} {A : Nat → Prop} {u U : State} {H : Heap} (hvm : u.vm.Alike U.vm) (h : vx_Zq C n d A u H) : vx_Zq C n d A U H := ⟨va_Zq.moved hvm h.1, vx_L.moved hvm h.2⟩
theorem vx_Zq.kept {C n d : String} {A : Nat → Prop} {U : State} {H H1 : Heap} (h : vx_Zq C n d A U H) (hq : ∀ a : Nat, a < H.size → ¬ A a → H1[a]? = H[a]?) : vx_Zq C n d A U H1 := ⟨va_Zq.kept h.1 hq, vx_L.kept h.2 hq⟩
theorem vx_Zq.narrow {C n d : String} {A B : Nat → Prop} {U : State} {H : Heap} (h : vx_Zq C n d A U H) (hAB : ∀ q, B q → A q) : vx_Zq C n d B U H := ⟨va_Zq.narrow h.1 hAB, vx_L.narrow h.2 hAB⟩
theorem vx_Zqof {args : Array Value} {s : State} {C n d : String} {A : Nat → Prop} (hl : (Cond.laysStatic C n d).before args s = true) (hini : (Cond.initialized C).before args s = true) (h : (Cond.isRef (.static C n d)).before args s = true) (hA : ∀ a : Nat, a < s.heap.size → ¬ A a) : vx_Zq C n d A s s.heap := by
  refine ⟨va_Zqof hl hini h hA, ?_⟩
  obtain ⟨c, k, i, f, a, cell, h1, h2, h3, h4, h5, h6, h7, h8, h9⟩ := Cond.laysStatic_spec hl
  exact ⟨c, k, i, f, a, cell, h1, h2, h3, h4, h5, h6, h7, h8, h9, hA a (Array.getElem?_eq_some_iff.mp h5).1⟩
theorem vx_isRef {C n d : String} {v : Value} {A : Nat → Prop} {s : State} {args : Array Value} (h : va_Z C n d v A s s.heap) (hv : v.isRef = true) : (Cond.isRef (.static C n d)).before args s = true := by
  obtain ⟨cf, kf, fi, f, a, cell, h1, h2, h3, h4, h5, h6, h7, -⟩ := h
  have he : (Term.static C n d).eval args s none [] s = some v := by
    simp [Term.eval, State.fieldNamed?, h1, h2, h4, h5, h6, h7]
  simp only [Cond.before, Cond.holds, Cond.value, he]
  cases v <;> simp_all [Value.isRef]
theorem vx_isRefq {C n d : String} {A : Nat → Prop} {s : State} {args : Array Value} (h : va_Zq C n d A s s.heap) : (Cond.isRef (.static C n d)).before args s = true := by
  rcases h with h | ⟨t, h⟩
  · exact vx_isRef h rfl
  · exact vx_isRef h rfl
/-- the same frame, seen from here: as if the method were called anew in this heap -/
theorem vx_rebase {T : State} (X : Stand p l e R s m args below meth c T locs cells slots) {R' : Room} (hf : R'.frames ≤ R.frames) (hl : R'.locals ≤ R.locals) (hc : cells + R'.cells ≤ R.cells) (hs : slots + R'.slots ≤ R.slots) :
    Stand p l e R' ((T.setVm s.vm).setFrames (.invoking m args :: below)) m args below meth c T [] 0 0 := by
  have htop : (T.setVm s.vm).topJava?.isSome := X.here.top
  have hF : ((T.setVm s.vm).setFrames (.invoking m args :: below)).frames = .invoking m args :: below := State.frames_setFrames _ (State.cur_lt_of_top htop)
  obtain ⟨g₀, hg0⟩ := Option.isSome_iff_exists.mp htop
  obtain ⟨r, hr⟩ := State.topJava?_eq_some.mp hg0
  have hl9 : e.platform.stackLimits (T.setVm s.vm).me = e.platform.stackLimits s.me := X.limits
  have hb9 : (T.setVm s.vm).me.stackBytes = s.me.stackBytes := X.bytes
  refine ⟨X.admits, X.cas, X.clock, hF, ?_, X.hears, X.method, X.code, X.here, X.tail, X.warmed, ?_, ?_, ?_⟩
  · have h := X.room
    have hU : ((T.setVm s.vm).setFrames (.invoking m args :: below)).localsInUse = s.localsInUse := by
      rw [State.localsInUse_invoking hF (meth := meth) (c := c) X.method X.code, State.localsInUse_invoking X.frames X.method X.code]
    simp only [State.hasRoom, Bool.and_eq_true, decide_eq_true_eq] at h ⊢
    obtain ⟨⟨⟨⟨h1, h2, h3, h4, h5, h6⟩, h7⟩, h8⟩, h9⟩ := h
    rw [X.frames, List.length_cons] at h2 h3
    have q1 := X.heapSize
    have q2 := X.used
    simp only [hF, hU, List.length_cons, State.stackLimits_setFrames, State.stackBytes_setFrames, hl9, hb9]
    refine ⟨⟨⟨⟨by omega, by omega, by omega, by omega, by omega, h6⟩, ?_⟩, ?_⟩, X.book⟩
    · show T.heap.size + R'.cells ≤ e.platform.maxCells
      omega
    · show T.slotsUsed + R'.slots ≤ e.platform.maxSlots
      omega
  · rw [State.stackLimits_setFrames]; rfl
  · rw [State.stackBytes_setFrames]; rfl
  · refine ⟨?_, Nat.le_refl _, Nat.le_refl _, ?_, ?_, fun a c9 h9 => ⟨c9, h9, rfl, rfl, fun _ _ => rfl⟩⟩
    · obtain ⟨t, ht, -⟩ := State.frames_cons hr
      show T.setVm s.vm = { ((T.setVm s.vm).setFrames (.invoking m args :: below)).setFrames (T.setVm s.vm).frames with heap := T.heap, slotsUsed := T.slotsUsed }
      rw [State.setFrames_setFrames, State.setFrames_self ht]
      rfl
    · show T.slotsUsed = T.slotsUsed + ((T.heap.toList.drop T.heap.size).map (·.slots.size)).sum
      rw [List.drop_eq_nil_of_le (Nat.le_of_eq Array.length_toList)]
      rfl
    · show ((T.heap.toList.drop T.heap.size).map (·.slots.size)).sum ≤ 0
      rw [List.drop_eq_nil_of_le (Nat.le_of_eq Array.length_toList)]
      exact Nat.le_refl _
/-- 'throw new E()': new; dup; invokespecial; athrow -/
theorem vx_throw0 {cc : ByteArray} {pc : Nat} (hexec : p.tables.exec = Jvm.exec) (hb : c.code = cc) (hl : l.stackTraces = false) {own cls : String} {names : List String} {ik ic mc ms : Nat} {A : Nat → Prop}
    (hown : s.vm.findClass own = some m.cls) (hcls : Bundle.fit cls = true) (hnames : ∀ n ∈ names, Bundle.fit n = true)
    (hk : (Cond.classLink own ik cls).before args s = true) (hini : (Cond.initialized cls).before args s = true) (hat : ∀ w ∈ vx_at0 own ic cls names, w.before args s = true)
    (hgood : ∀ w ∈ Cond.classLink own ik cls :: Cond.initialized cls :: vx_at0 own ic cls names, vx_ot w = true)
    (hU : vx_Zq Bundle.tN "UNASSIGNED_STACK" Bundle.steD A s s.heap) (hN : vx_Zq Bundle.tN "SUPPRESSED_SENTINEL" Bundle.listD A s s.heap) (hS : va_S A s.heap H locs) (hsize : ls.size = c.maxLocals)
    (d0 : decode cc pc = .ok (.new ik, 3)) (d3 : decode cc (pc + 3) = .ok (.dup, 1)) (d4 : decode cc (pc + 4) = .ok (.invokespecial ic, 3)) (d7 : decode cc (pc + 7) = .ok (.athrow, 1))
    (hout : ∀ x ∈ c.exceptionTable.toList, covers x (pc + 7) = false)
    (hRframes : names.length + 3 < R.frames) (hRlocals : (rest.map fun v => v.category).sum + (13 * (names.length + 1) + 42) ≤ R.locals) (hRcells : cells + 1 ≤ R.cells) (hRslots : slots + 6 ≤ R.slots) (hlocks : meth.locks = false)
    (hx : ∀ t : State, s.vm.Alike t.vm → H.size ≤ t.heap.size → (∀ q : Nat, q < H.size → t.heap[q]? = H[q]?) → XC cls s t)
    (hf : ∀ z ∈ locs, free z.base) (hc : cells + 1 ≤ mc) (hs : slots + 6 ≤ ms) :
    W p l e R s m args below meth c H locs cells slots (vx_MQ below Qc XC args s mc ms free) (F0 m pc ls rest) := by
  intro T hT X
  have htr : e.platform.stackTraces = false := (show e.platform.stackTraces = l.stackTraces by rw [X.admits.platform]).trans hl
  have Y := vx_rebase X (R' := { frames := R.frames, locals := R.locals, cells := 1, slots := 6 }) (Nat.le_refl _) (Nat.le_refl _) hRcells hRslots
  obtain ⟨s', hA⟩ : ∃ z, z = (T.setVm s.vm).setFrames (.invoking m args :: below) := ⟨_, rfl⟩
  rw [← hA] at Y
  have hvm : s'.vm = s.vm := by rw [hA]; rfl
  have hhp : s'.heap = H := by rw [hA]; exact hT
  have hW0 : s.WarmedH s'.vm := by rw [hvm]; exact State.WarmedH.refl s
  have hat' : ∀ w ∈ vx_at0 own ic cls names, w.before args s' = true := fun w hw => vx_ot_at hW0 hvm.symm (hgood w (List.mem_cons_of_mem _ (List.mem_cons_of_mem _ hw))) (hat w hw)
  have hk' : (Cond.classLink own ik cls).before args s' = true := vx_ot_at hW0 hvm.symm (hgood _ List.mem_cons_self) hk
  have hini' : (Cond.initialized cls).before args s' = true := vx_ot_at hW0 hvm.symm (hgood _ (List.mem_cons_of_mem _ List.mem_cons_self)) hini
  have hU' : vx_Zq Bundle.tN "UNASSIGNED_STACK" Bundle.steD A s' s'.heap := by rw [hhp]; exact vx_Zq.moved hW0.alike (hU.kept hS.2.1)
  have hN' : vx_Zq Bundle.tN "SUPPRESSED_SENTINEL" Bundle.listD A s' s'.heap := by rw [hhp]; exact vx_Zq.moved hW0.alike (hN.kept hS.2.1)
  have h : ∀ w ∈ Bundle.ownAtoms0 own ic cls names, w.before args s' = true := vx_own hat' (vx_isRefq hU'.1) (vx_isRefq hN'.1) hU'.2.word hN'.2.word
  have hown' : s'.vm.findClass own = some m.cls := by rw [hvm]; exact hown
  have hins : (Cond.instantiable cls 6).before args s' = true := h _ (by simp [Bundle.ownAtoms0])
  obtain ⟨vm₁, cX, kX, hfX, hkX, -, -, X₁, st1⟩ := Y.newCold hexec (own := own) (C := cls) (index := ik) (n := 6) hown' hk' hins hini'
    (g := F0 m pc ls rest) rfl (by rw [hb]; exact d0) (Nat.le_refl _) (Nat.le_refl _)
  generalize hT1 : (T.setVm vm₁).pushCell { cls := cX, slots := kX.instanceTypes.map defaultValue, vm := .none } = T1 at X₁ st1
  have hcat : (Value.ref T.heap.size).category = 1 := rfl
  have hcellA : T1.heap[T.heap.size]? = some (freshCell cX kX) := by rw [← hT1]; exact State.heap_pushCell_size _ _
  have d3' : decode c.code (pc + 3) = .ok (.dup, 1) := by rw [hb]; exact d3
  obtain ⟨U, hsteps, hrun, hend, hW, hsame, ce, hce, hO⟩ := X₁.ctorThrow0 hexec htr (own := own) (cls := cls) (names := names) (ic := ic) hown' hcls hnames h (fun x hx => nomatch hx) hfX hkX hcellA (by rw [hhp, hT]; exact Nat.le_refl _)
    (g := { method := m, pc := pc + 4, locals := ls, stack := .ref T.heap.size :: .ref T.heap.size :: rest, locked := none }) rfl hsize rfl rfl (rest := rest) rfl
    (by rw [hb]; exact d4) (by rw [hb]; exact d7) hout hRframes (by simp only [List.map_cons, List.sum_cons, hcat]; omega) hlocks
  obtain ⟨f1, f2⟩ := vx_frame hsame
  rw [hhp] at f1 f2
  have hWs : s.WarmedH U.vm := State.WarmedH.trans hW0 hW
  have hcl : s.vm.findClass cls = some ce.cls := by
    have h9 := hO.cls
    rw [hvm] at h9
    exact h9
  have hall : s.sameButNew ({ U with vm := s.vm } : State) locs mc ms := by
    subst hA
    obtain ⟨e1, e2⟩ := hsame
    rw [State.setFrames_setFrames] at e1
    have h2 : (T.setVm s.vm).sameButNew ({ U with vm := s.vm } : State) [] (0 + 1) (0 + 6) := ⟨e1, e2⟩
    have h3 := X.same.trans h2
    rw [List.append_nil] at h3
    exact h3.mono hc hs
  refine ⟨U, ?_, .threw T.heap.size, hrun, hend, Or.inr ⟨T.heap.size, rfl, cls, ce, locs, hx U hWs.alike f1 (fun q hq => f2 q hq (fun z hz => nomatch hz)), hce, hO.vm, hcl, hWs, hall, hf⟩⟩
  refine st1 _ ?_
  show Steps p.tables e below (T1.setTop { method := m, pc := pc + 3, locals := ls, stack := .ref T.heap.size :: rest, locked := none }) _
  jvm_step X₁.here [X₁.here.top, hexec, d3', Value.category]
  exact hsteps
/-- 'throw new E("text")': new; dup; ldc; invokespecial; athrow -/
theorem vx_throwS {cc : ByteArray} {pc : Nat} (hexec : p.tables.exec = Jvm.exec) (hb : c.code = cc) (hl : l.stackTraces = false) {own cls text : String} {names : List String} {ik is ic mc ms sa : Nat} {A : Nat → Prop}
    (hown : s.vm.findClass own = some m.cls) (hcls : Bundle.fit cls = true) (hnames : ∀ n ∈ names, Bundle.fit n = true)
    (hk : (Cond.classLink own ik cls).before args s = true) (hini : (Cond.initialized cls).before args s = true) (hstr : vk_R own is text sa s) (hat : ∀ w ∈ vx_atS own ic cls names, w.before args s = true)
    (hgood : ∀ w ∈ Cond.classLink own ik cls :: Cond.initialized cls :: vx_atS own ic cls names, vx_ot w = true)
    (hU : vx_Zq Bundle.tN "UNASSIGNED_STACK" Bundle.steD A s s.heap) (hN : vx_Zq Bundle.tN "SUPPRESSED_SENTINEL" Bundle.listD A s s.heap) (hS : va_S A s.heap H locs) (hsize : ls.size = c.maxLocals)
    (d0 : decode cc pc = .ok (.new ik, 3)) (d3 : decode cc (pc + 3) = .ok (.dup, 1)) (d4 : decode cc (pc + 4) = .ok (.ldc is, 2)) (d6 : decode cc (pc + 6) = .ok (.invokespecial ic, 3)) (d9 : decode cc (pc + 9) = .ok (.athrow, 1))
    (hout : ∀ x ∈ c.exceptionTable.toList, covers x (pc + 9) = false)
    (hRframes : names.length + 3 < R.frames) (hRlocals : (rest.map fun v => v.category).sum + (13 * (names.length + 1) + 43) ≤ R.locals) (hRcells : cells + 1 ≤ R.cells) (hRslots : slots + 6 ≤ R.slots) (hlocks : meth.locks = false)
    (hx : ∀ t : State, s.vm.Alike t.vm → H.size ≤ t.heap.size → (∀ q : Nat, q < H.size → t.heap[q]? = H[q]?) → XC cls s t)
    (hf : ∀ z ∈ locs, free z.base) (hc : cells + 1 ≤ mc) (hs : slots + 6 ≤ ms) :
    W p l e R s m args below meth c H locs cells slots (vx_MQ below Qc XC args s mc ms free) (F0 m pc ls rest) := by
  intro T hT X
  have htr : e.platform.stackTraces = false := (show e.platform.stackTraces = l.stackTraces by rw [X.admits.platform]).trans hl
  have Y := vx_rebase X (R' := { frames := R.frames, locals := R.locals, cells := 1, slots := 6 }) (Nat.le_refl _) (Nat.le_refl _) hRcells hRslots
  obtain ⟨s', hA⟩ : ∃ z, z = (T.setVm s.vm).setFrames (.invoking m args :: below) := ⟨_, rfl⟩
  rw [← hA] at Y
  have hvm : s'.vm = s.vm := by rw [hA]; rfl
  have hhp : s'.heap = H := by rw [hA]; exact hT
  have hW0 : s.WarmedH s'.vm := by rw [hvm]; exact State.WarmedH.refl s
  have hat' : ∀ w ∈ vx_atS own ic cls names, w.before args s' = true := fun w hw => vx_ot_at hW0 hvm.symm (hgood w (List.mem_cons_of_mem _ (List.mem_cons_of_mem _ hw))) (hat w hw)
  have hk' : (Cond.classLink own ik cls).before args s' = true := vx_ot_at hW0 hvm.symm (hgood _ List.mem_cons_self) hk
  have hini' : (Cond.initialized cls).before args s' = true := vx_ot_at hW0 hvm.symm (hgood _ (List.mem_cons_of_mem _ List.mem_cons_self)) hini
  have hU' : vx_Zq Bundle.tN "UNASSIGNED_STACK" Bundle.steD A s' s'.heap := by rw [hhp]; exact vx_Zq.moved hW0.alike (hU.kept hS.2.1)
  have hN' : vx_Zq Bundle.tN "SUPPRESSED_SENTINEL" Bundle.listD A s' s'.heap := by rw [hhp]; exact vx_Zq.moved hW0.alike (hN.kept hS.2.1)
  have h : ∀ w ∈ Bundle.ownAtoms own ic cls names, w.before args s' = true := vx_own hat' (vx_isRefq hU'.1) (vx_isRefq hN'.1) hU'.2.word hN'.2.word
  have hown' : s'.vm.findClass own = some m.cls := by rw [hvm]; exact hown
  have hins : (Cond.instantiable cls 6).before args s' = true := h _ (by simp [Bundle.ownAtoms])
  obtain ⟨vm₁, cX, kX, hfX, hkX, -, -, X₁, st1⟩ := Y.newCold hexec (own := own) (C := cls) (index := ik) (n := 6) hown' hk' hins hini'
    (g := F0 m pc ls rest) rfl (by rw [hb]; exact d0) (Nat.le_refl _) (Nat.le_refl _)
  generalize hT1 : (T.setVm vm₁).pushCell { cls := cX, slots := kX.instanceTypes.map defaultValue, vm := .none } = T1 at X₁ st1
  have hcat : (Value.ref T.heap.size).category = 1 := rfl
  have hcellA : T1.heap[T.heap.size]? = some (freshCell cX kX) := by rw [← hT1]; exact State.heap_pushCell_size _ _
  have d3' : decode c.code (pc + 3) = .ok (.dup, 1) := by rw [hb]; exact d3
  have d4' : decode c.code (pc + 4) = .ok (.ldc is, 2) := by rw [hb]; exact d4
  have hstr' : vk_R own is text sa s' := vk_R.warm hW0 hstr
  obtain ⟨U, hsteps, hrun, hend, hW, hsame, ce, hce, hO⟩ := X₁.ctorThrowS hexec htr (own := own) (cls := cls) (names := names) (ic := ic) hown' hcls hnames h (fun x hx => nomatch hx) hfX hkX hcellA (by rw [hhp, hT]; exact Nat.le_refl _) (msg := .ref sa) rfl
    (g := { method := m, pc := pc + 6, locals := ls, stack := .ref sa :: .ref T.heap.size :: .ref T.heap.size :: rest, locked := none }) rfl hsize rfl rfl (rest := rest) rfl
    (by rw [hb]; exact d6) (by rw [hb]; exact d9) hout hRframes (by simp only [List.map_cons, List.sum_cons, hcat]; omega) hlocks
  obtain ⟨f1, f2⟩ := vx_frame hsame
  rw [hhp] at f1 f2
  have hWs : s.WarmedH U.vm := State.WarmedH.trans hW0 hW
  have hcl : s.vm.findClass cls = some ce.cls := by
    have h9 := hO.cls
    rw [hvm] at h9
    exact h9
  have hall : s.sameButNew ({ U with vm := s.vm } : State) locs mc ms := by
    subst hA
    obtain ⟨e1, e2⟩ := hsame
    rw [State.setFrames_setFrames] at e1
    have h2 : (T.setVm s.vm).sameButNew ({ U with vm := s.vm } : State) [] (0 + 1) (0 + 6) := ⟨e1, e2⟩
    have h3 := X.same.trans h2
    rw [List.append_nil] at h3
    exact h3.mono hc hs
  refine ⟨U, ?_, .threw T.heap.size, hrun, hend, Or.inr ⟨T.heap.size, rfl, cls, ce, locs, hx U hWs.alike f1 (fun q hq => f2 q hq (fun z hz => nomatch hz)), hce, hO.vm, hcl, hWs, hall, hf⟩⟩
  refine st1 _ ?_
  show Steps p.tables e below (T1.setTop { method := m, pc := pc + 3, locals := ls, stack := .ref T.heap.size :: rest, locked := none }) _
  jvm_step X₁.here [X₁.here.top, hexec, d3', Value.category]
  exact X₁.ldcString hexec (own := own) (text := text) (index := is) (a := sa) hown' hstr'.1 hstr'.2
    (g := { method := m, pc := pc + 4, locals := ls, stack := .ref T.heap.size :: .ref T.heap.size :: rest, locked := none }) rfl d4' _ hsteps
/-- 'throw new E("text")', the text by a wide index -/
theorem vx_throwSW {cc : ByteArray} {pc : Nat} (hexec : p.tables.exec = Jvm.exec) (hb : c.code = cc) (hl : l.stackTraces = false) {own cls text : String} {names : List String} {ik is ic mc ms sa : Nat} {A : Nat → Prop}
    (hown : s.vm.findClass own = some m.cls) (hcls : Bundle.fit cls = true) (hnames : ∀ n ∈ names, Bundle.fit n = true)
    (hk : (Cond.classLink own ik cls).before args s = true) (hini : (Cond.initialized cls).before args s = true) (hstr : vk_R own is text sa s) (hat : ∀ w ∈ vx_atS own ic cls names, w.before args s = true)
    (hgood : ∀ w ∈ Cond.classLink own ik cls :: Cond.initialized cls :: vx_atS own ic cls names, vx_ot w = true)
    (hU : vx_Zq Bundle.tN "UNASSIGNED_STACK" Bundle.steD A s s.heap) (hN : vx_Zq Bundle.tN "SUPPRESSED_SENTINEL" Bundle.listD A s s.heap) (hS : va_S A s.heap H locs) (hsize : ls.size = c.maxLocals)
    (d0 : decode cc pc = .ok (.new ik, 3)) (d3 : decode cc (pc + 3) = .ok (.dup, 1)) (d4 : decode cc (pc + 4) = .ok (.ldc_w is, 3)) (d7 : decode cc (pc + 7) = .ok (.invokespecial ic, 3)) (d10 : decode cc (pc + 10) = .ok (.athrow, 1))
    (hout : ∀ x ∈ c.exceptionTable.toList, covers x (pc + 10) = false)
    (hRframes : names.length + 3 < R.frames) (hRlocals : (rest.map fun v => v.category).sum + (13 * (names.length + 1) + 43) ≤ R.locals) (hRcells : cells + 1 ≤ R.cells) (hRslots : slots + 6 ≤ R.slots) (hlocks : meth.locks = false)
    (hx : ∀ t : State, s.vm.Alike t.vm → H.size ≤ t.heap.size → (∀ q : Nat, q < H.size → t.heap[q]? = H[q]?) → XC cls s t)
    (hf : ∀ z ∈ locs, free z.base) (hc : cells + 1 ≤ mc) (hs : slots + 6 ≤ ms) :
    W p l e R s m args below meth c H locs cells slots (vx_MQ below Qc XC args s mc ms free) (F0 m pc ls rest) := by
  intro T hT X
  have htr : e.platform.stackTraces = false := (show e.platform.stackTraces = l.stackTraces by rw [X.admits.platform]).trans hl
  have Y := vx_rebase X (R' := { frames := R.frames, locals := R.locals, cells := 1, slots := 6 }) (Nat.le_refl _) (Nat.le_refl _) hRcells hRslots
  obtain ⟨s', hA⟩ : ∃ z, z = (T.setVm s.vm).setFrames (.invoking m args :: below) := ⟨_, rfl⟩
  rw [← hA] at Y
  have hvm : s'.vm = s.vm := by rw [hA]; rfl
  have hhp : s'.heap = H := by rw [hA]; exact hT
  have hW0 : s.WarmedH s'.vm := by rw [hvm]; exact State.WarmedH.refl s
  have hat' : ∀ w ∈ vx_atS own ic cls names, w.before args s' = true := fun w hw => vx_ot_at hW0 hvm.symm (hgood w (List.mem_cons_of_mem _ (List.mem_cons_of_mem _ hw))) (hat w hw)
  have hk' : (Cond.classLink own ik cls).before args s' = true := vx_ot_at hW0 hvm.symm (hgood _ List.mem_cons_self) hk
  have hini' : (Cond.initialized cls).before args s' = true := vx_ot_at hW0 hvm.symm (hgood _ (List.mem_cons_of_mem _ List.mem_cons_self)) hini
  have hU' : vx_Zq Bundle.tN "UNASSIGNED_STACK" Bundle.steD A s' s'.heap := by rw [hhp]; exact vx_Zq.moved hW0.alike (hU.kept hS.2.1)
  have hN' : vx_Zq Bundle.tN "SUPPRESSED_SENTINEL" Bundle.listD A s' s'.heap := by rw [hhp]; exact vx_Zq.moved hW0.alike (hN.kept hS.2.1)
  have h : ∀ w ∈ Bundle.ownAtoms own ic cls names, w.before args s' = true := vx_own hat' (vx_isRefq hU'.1) (vx_isRefq hN'.1) hU'.2.word hN'.2.word
  have hown' : s'.vm.findClass own = some m.cls := by rw [hvm]; exact hown
  have hins : (Cond.instantiable cls 6).before args s' = true := h _ (by simp [Bundle.ownAtoms])
  obtain ⟨vm₁, cX, kX, hfX, hkX, -, -, X₁, st1⟩ := Y.newCold hexec (own := own) (C := cls) (index := ik) (n := 6) hown' hk' hins hini'
    (g := F0 m pc ls rest) rfl (by rw [hb]; exact d0) (Nat.le_refl _) (Nat.le_refl _)
  generalize hT1 : (T.setVm vm₁).pushCell { cls := cX, slots := kX.instanceTypes.map defaultValue, vm := .none } = T1 at X₁ st1
  have hcat : (Value.ref T.heap.size).category = 1 := rfl
  have hcellA : T1.heap[T.heap.size]? = some (freshCell cX kX) := by rw [← hT1]; exact State.heap_pushCell_size _ _
  have d3' : decode c.code (pc + 3) = .ok (.dup, 1) := by rw [hb]; exact d3
  have d4' : decode c.code (pc + 4) = .ok (.ldc_w is, 3) := by rw [hb]; exact d4
  have hstr' : vk_R own is text sa s' := vk_R.warm hW0 hstr
  obtain ⟨U, hsteps, hrun, hend, hW, hsame, ce, hce, hO⟩ := X₁.ctorThrowS hexec htr (own := own) (cls := cls) (names := names) (ic := ic) hown' hcls hnames h (fun x hx => nomatch hx) hfX hkX hcellA (by rw [hhp, hT]; exact Nat.le_refl _) (msg := .ref sa) rfl
    (g := { method := m, pc := pc + 7, locals := ls, stack := .ref sa :: .ref T.heap.size :: .ref T.heap.size :: rest, locked := none }) rfl hsize rfl rfl (rest := rest) rfl
    (by rw [hb]; exact d7) (by rw [hb]; exact d10) hout hRframes (by simp only [List.map_cons, List.sum_cons, hcat]; omega) hlocks
  obtain ⟨f1, f2⟩ := vx_frame hsame
  rw [hhp] at f1 f2
  have hWs : s.WarmedH U.vm := State.WarmedH.trans hW0 hW
  have hcl : s.vm.findClass cls = some ce.cls := by
    have h9 := hO.cls
    rw [hvm] at h9
    exact h9
  have hall : s.sameButNew ({ U with vm := s.vm } : State) locs mc ms := by
    subst hA
    obtain ⟨e1, e2⟩ := hsame
    rw [State.setFrames_setFrames] at e1
    have h2 : (T.setVm s.vm).sameButNew ({ U with vm := s.vm } : State) [] (0 + 1) (0 + 6) := ⟨e1, e2⟩
    have h3 := X.same.trans h2
    rw [List.append_nil] at h3
    exact h3.mono hc hs
  refine ⟨U, ?_, .threw T.heap.size, hrun, hend, Or.inr ⟨T.heap.size, rfl, cls, ce, locs, hx U hWs.alike f1 (fun q hq => f2 q hq (fun z hz => nomatch hz)), hce, hO.vm, hcl, hWs, hall, hf⟩⟩
  refine st1 _ ?_
  show Steps p.tables e below (T1.setTop { method := m, pc := pc + 3, locals := ls, stack := .ref T.heap.size :: rest, locked := none }) _
  jvm_step X₁.here [X₁.here.top, hexec, d3', Value.category]
  exact X₁.ldcStringW hexec (own := own) (text := text) (index := is) (a := sa) hown' hstr'.1 hstr'.2
    (g := { method := m, pc := pc + 4, locals := ls, stack := .ref T.heap.size :: .ref T.heap.size :: rest, locked := none }) rfl d4' _ hsteps
end Ends
section Bodies
variable {l : Launch}
theorem vx_ofW {y : MethodName} {ws ws' : List Cond} {rm : Room} {Pc : Array Value → State → Prop} {Qc : Array Value → State → Outcome → State → Prop} {XC : String → State → State → Prop} {mc ms : Nat} {free : Addr → Prop} {cc : ByteArray} {maxL : Nat} {ret : Option FieldType}
    (hy : plainName y.cls = true) (hw : ws = Cond.code y cc maxL ret :: ws')
    (body : ∀ p e s m args below meth c s₁, BodyLoose p l y (headSpec ws rm) cc maxL ret e s m args below meth c s₁ → c.maxLocals = maxL → (∀ x ∈ c.exceptionTable.toList, False) → Pc args s →
      W p l e (headSpec ws rm).room s m args below meth c s.heap [] 0 0 (vx_MQ below Qc XC args s mc ms free) (entryFrame m args maxL)) : vx_Met l y ws rm Pc Qc XC mc ms free := by
  refine MetFree.of_bodyS (code := cc) (maxLocals := maxL) (ret := ret) hy ?_ ?_
  · intro args s m h hn
    obtain ⟨meth, c, h1, h2, h3, h4, h5, h6, -, -⟩ := Cond.code_spec hn (atoms_spec (ws := ws) h _ (by rw [hw]; exact List.mem_cons_self))
    exact ⟨meth, c, h1, h2, h3, h4, h5, h6⟩
  · intro p e s m args below meth c s₁ B hml hP _
    have hh0 : s₁.heap = s.heap := by rw [B.state]; rfl
    have ht : ∀ x ∈ c.exceptionTable.toList, False := by
      obtain ⟨meth9, c9, h1, h2, -, -, -, -, h7, -⟩ := Cond.code_spec B.named (atoms_spec (ws := ws) B.pre _ (by rw [hw]; exact List.mem_cons_self))
      cases Option.some.inj (h1.symm.trans B.method)
      cases Option.some.inj (h2.symm.trans (Stand.of_body B).code)
      intro x hx
      rw [Array.isEmpty_iff.mp h7] at hx
      cases hx
    obtain ⟨t, a1, o, b1, b2, b3⟩ := body p e s m args below meth c s₁ B hml ht hP s₁ hh0 (Stand.of_body B)
    exact ⟨t, o, a1, b1, b2, b3⟩
/-- the table of a body with handlers -/
theorem vx_table {p : Program} {x y : MethodName} {S : Spec} {cc bytes : ByteArray} {maxL maxL' : Nat} {ret ret' : Option FieldType} {e : Env} {s s₁ : State} {m : MethodId} {args : Array Value} {below : List Frame} {meth : Method} {c : Code} {hh : List (Nat × Nat × Nat × Nat)}
    (B : BodyLoose p l y S cc maxL ret e s m args below meth c s₁) (h : (Cond.codeWith y bytes maxL' ret' hh).before args s = true) : c.exceptionTable.toList = tableOf hh := by
  obtain ⟨m9, meth9, c9, hn9, h1, h2, -, -, h6, -⟩ := Cond.codeWith_spec h
  cases Option.some.inj (hn9.symm.trans B.named)
  cases Option.some.inj (h1.symm.trans B.method)
  cases Option.some.inj (h2.symm.trans (Stand.of_body B).code)
  rw [← h6, table_eq]
end Bodies
end VXA
/-! ===== END ===== -/
/-! ===== BEGIN a static call of a method with an exception table ===== -/
section VXS
variable {p : Program} {l : Launch} {e : Env} {R : Room} {s : State} {m : MethodId} {args : Array Value} {below : List Frame} {meth : Method} {c : Code} {T : State} {H : Heap} {locs : List Loc} {cells slots : Nat}
abbrev vx_CSW (R : Room) (s : State) (args : Array Value) (own : String) (index : Nat) (y : MethodName) (bytes : ByteArray) (maxL : Nat) (ret : Option FieldType) (hh : List (Nat × Nat × Nat × Nat)) (ws : List Cond) (rm : Room) (mc ms n : Nat) : Prop :=
  (rm.cells = mc ∧ rm.slots = ms ∧ rm.frames + 1 ≤ R.frames ∧ 8 + (maxL + 11) + rm.locals ≤ R.locals ∧ (∀ w ∈ ws, ∀ (a' : Array Value) (U : State), s.WarmedH U.vm → w.before a' U = true) ∧ Cond.codeWith y bytes maxL ret hh ∈ ws) ∧
  (Cond.codeWith y bytes maxL ret hh).before args s = true ∧ (Cond.initialized y.cls).before args s = true ∧ (y.cls ≠ "java/lang/invoke/MethodHandle" ∧ y.cls ≠ "java/lang/invoke/VarHandle") ∧
  (∀ sig, parseMethodDescriptor y.desc = some sig → n = sig.parameters.length) ∧ (Cond.methodLink own index y).before args s = true ∧ (Cond.static y).before args s = true
theorem vx_cwSW {own : String} {index maxL mc ms : Nat} {y : MethodName} {bytes : ByteArray} {ret : Option FieldType} {hh : List (Nat × Nat × Nat × Nat)} {Ts ws ws' : List Cond} {rm : Room} (n : Nat) (ht : ∀ w ∈ Ts, w.before args s = true) (hT : GoodIn Ts (va_wsS own index y ws)) (hw : ws = Cond.codeWith y bytes maxL ret hh :: ws') (hrc : rm.cells = mc) (hrs : rm.slots = ms)
    (hd : y.cls ≠ "java/lang/invoke/MethodHandle" ∧ y.cls ≠ "java/lang/invoke/VarHandle" ∧ (parseMethodDescriptor y.desc).map (fun d => d.parameters.length) = some n) (hR : rm.frames + 1 ≤ R.frames ∧ 8 + (maxL + 11) + rm.locals ≤ R.locals) :
    vx_CSW R s args own index y bytes maxL ret hh ws rm mc ms n := by
  have ok : ∀ w ∈ va_wsS own index y ws, w.before args s = true := fun w h => ht w (hT w h).1
  have hG : GoodIn Ts ws := fun w h => hT w (by unfold va_wsS; exact List.mem_append_right _ h)
  have hc : Cond.codeWith y bytes maxL ret hh ∈ ws := by rw [hw]; exact List.mem_cons_self
  refine ⟨⟨hrc, hrs, hR.1, hR.2, pay_in ht hG, hc⟩, ht _ (hG _ hc).1, ok _ (by simp [va_wsS]), ⟨hd.1, hd.2.1⟩, fun sig h => ?_, ok _ (by simp [va_wsS]), ok _ (by simp [va_wsS])⟩
  have h2 := hd.2.2
  rw [h] at h2
  exact (Option.some.inj h2).symm
theorem vx_callSW (X : Stand p l e R s m args below meth c T locs cells slots) (hexec : p.tables.exec = Jvm.exec) {own : String} {index : Nat} {y : MethodName} {bytes : ByteArray} {maxL : Nat} {ret : Option FieldType} {hh : List (Nat × Nat × Nat × Nat)}
    (hown : s.vm.findClass own = some m.cls) (hlink : (Cond.methodLink own index y).before args s = true) (hstat : (Cond.static y).before args s = true) (hinit : (Cond.initialized y.cls).before args s = true)
    (hcode : (Cond.codeWith y bytes maxL ret hh).before args s = true) (hy : y.cls ≠ "java/lang/invoke/MethodHandle" ∧ y.cls ≠ "java/lang/invoke/VarHandle")
    {W9 : Nat} {Pre : Pt → Array Value → Prop} {Post : Pt → Array Value → Option Value → Pt → Prop} (hK : Back l R p e below s args y 3 W9 Pre Post)
    {g : JFrame} (hg : g.method = m) (hsize : g.locals.size = c.maxLocals) {argsL rest : List Value} (hlen : ∀ sig, parseMethodDescriptor y.desc = some sig → argsL.length = sig.parameters.length)
    (hstack : g.stack = argsL.reverse ++ rest) (hW : 2 * g.monitorRoom + (rest.map fun v => v.category).sum ≤ W9) (hdg : decode c.code g.pc = .ok (.invokestatic index, 3))
    (hpre : ∀ vm₁, s.WarmedH vm₁ → Pre ⟨T.setVm vm₁, locs, cells, slots⟩ argsL.toArray) :
    ∃ (v : Option Value) (vm₁ : Vm) (B : Pt), s.WarmedH vm₁ ∧ Stand p l e R s m args below meth c B.U B.locs B.cells B.slots ∧ Post ⟨T.setVm vm₁, locs, cells, slots⟩ argsL.toArray v B ∧
      ∀ target, Steps p.tables e below (B.U.setTop { g with pc := g.pc + 3, stack := v.toList ++ rest }) target → Steps p.tables e below (T.setTop g) target := by
  obtain ⟨mk, methM, cM, hnamed, hmethM, -, -, -, -, -, -, hsigM⟩ := Cond.codeWith_spec hcode
  have hstatic : methM.isStatic = true := Cond.static_spec hnamed hmethM hstat
  obtain ⟨kP, hkP, -⟩ := className_of_methodNamed hnamed
  have hinitP : kP.init = .initialized := Cond.initialized_spec (findClass_of_methodNamed hnamed) hkP hinit
  obtain ⟨vm₁, X₁, hstep₁⟩ := X.invokestatic hexec hown hlink hnamed hmethM hstatic hkP hinitP hy (g := g) hg (argsL := argsL) (rest := rest) (hlen _ hsigM) hstack hdg
  obtain ⟨v, B, X', hpost, hsteps⟩ := hK m meth c ⟨T.setVm vm₁, locs, cells, slots⟩ { g with stack := rest } (.invokestatic index) mk argsL.toArray X₁ hg hsize hdg hW (X₁.named hnamed) (hpre vm₁ X₁.warmed)
  exact ⟨v, vm₁, B, X₁.warmed, X', hpost, fun target h => hstep₁ _ fun acts => by rw [doInvoke_state]; exact hsteps.trans h⟩
theorem vx_runSW {y : MethodName} {bytes cc : ByteArray} {maxL nL mc ms n index : Nat} {ret : Option FieldType} {hh : List (Nat × Nat × Nat × Nat)} {ws : List Cond} {rm : Room} {Pc : Array Value → State → Prop} {Qc : Array Value → State → Outcome → State → Prop} {free : Addr → Prop} {Ts : List Cond} {own : String} {As rest : List Value} {g : JFrame}
    (S : CallFix p m c cc nL s args Ts own) (hM : Met l y ws rm Pc Qc mc ms free) (cw : vx_CSW R s args own index y bytes maxL ret hh ws rm mc ms n) (hp : PreS s H Pc As)
    (hg : g.method = m) (hn : As.length = n) (hsize : g.locals.size = nL) (hstack : g.stack = As.reverse ++ rest) (hW : 2 * g.monitorRoom + (rest.map fun v => v.category).sum ≤ 8) (hdg : decode cc g.pc = .ok (.invokestatic index, 3)) (hf : cells + mc ≤ R.cells ∧ slots + ms ≤ R.slots) :
    va_Run p l e R s m args below meth c H locs cells slots mc ms g rest (Qc As.toArray) (free) := by
  obtain ⟨⟨hrc, hrs, hfr, hlo, hws, hcw⟩, hcode, hini, hy, hlen, hl, hstt⟩ := cw
  have hK : Back l R p e below s args y 3 8 (PreOf R mc ms Pc) (PostOf Qc mc ms free) := va_backW (hh := hh) (bytes := bytes) (maxL := maxL) (ret := ret) hM hp.1 hrc hrs hfr hlo hws hcw (fun a' U hW => word_at hW (Or.inl (by first | rfl | simp [Cond.onTables, Cond.keeps, Cond.steady])) hini)
  obtain ⟨hx, hb, hml, ho, -⟩ := S
  intro T hT X
  obtain ⟨v, vm₁, ⟨U', l2, c2, s2⟩, hW₁, X', ⟨g', mk, t, L, e1, e2, hq, h1, hL, h2, h3⟩, st⟩ := vx_callSW X hx (hh := hh) (bytes := bytes) (maxL := maxL) (ret := ret) ho hl hstt hini hcode hy hK hg (hsize.trans hml.symm) (argsL := As) (rest := rest) (fun sig h => hn.trans (hlen sig h)) hstack hW (by rw [hb]; exact hdg)
    (fun vm₁ hW₁ => ⟨hf.1, hf.2, hp.2 (T.setVm vm₁) hT hW₁⟩)
  dsimp only [Pt.U, Pt.locs, Pt.cells, Pt.slots] at X' e1 e2 h1 h2 h3 st
  subst h1; subst h2; subst h3
  exact ⟨v, (T.setVm vm₁).calling g' mk As.toArray, t, U', L, hT, X', hL, e1, e2, hq, st⟩
/-- not caught here, past rows that name other classes: it goes on to the caller -/
theorem vx_outP {p : Program} {l : Launch} {e : Env} {R : Room} {s : State} {m : MethodId} {args : Array Value} {below : List Frame} {meth : Method} {c : Code} {H : Heap} {locs : List Loc} {cells slots : Nat} {free : Addr → Prop} {ls : Array Slot} {rest : List Value} {Qc : Array Value → State → Outcome → State → Prop} {XC : String → State → State → Prop}
    {pc : Nat} {own E : String} {ce : Cell} {q : Addr} {mc ms : Nat} (hown : s.vm.findClass own = some m.cls) (hlocks : meth.locks = false)
    (hpass : ∀ z ∈ c.exceptionTable.toList, covers z pc = false ∨ (z.catchType ≠ 0 ∧ ∃ nm : String, (Cond.classLink own z.catchType nm).before args s = true ∧ va_Nc E nm s)) (hcell : H[q]? = some ce) (hv : ce.vm = .none) (hcl : s.vm.findClass E = some ce.cls)
    (hx : ∀ t : State, t.heap = H → s.vm.Alike t.vm → XC E s t) (hf : ∀ z ∈ locs, free z.base) (hc : cells ≤ mc) (hs : slots ≤ ms) :
    vx_W p l e R s m args below meth c H locs cells slots (vx_MQ below Qc XC args s mc ms free) (F0 m pc ls rest) q := by
  intro T hT X
  have hpl : e.platform.magicAccessors = ({} : Platform).magicAccessors := by rw [X.admits.platform]
  obtain ⟨vm', hW', X', st⟩ := X.outThrough hlocks q (g := F0 m pc ls rest) rfl rfl rfl (cell := ce) (by rw [hT]; exact hcell) (by rw [hv]; rfl)
    (by obtain ⟨k9, h9, -⟩ := Vm.findClass_spec hcl; exact ⟨k9, h9⟩) (fun z hz => by
      rcases hpass z hz with h | ⟨hz0, nm, hl1, hn1⟩
      · exact Or.inl h
      · obtain ⟨c6, hc6, hcl6⟩ := Cond.classLink_spec hown hl1 e.platform hpl
        obtain ⟨a8, b8, h1, h2, h3⟩ := hn1
        cases Option.some.inj (h1.symm.trans hcl)
        cases Option.some.inj (h2.symm.trans hc6)
        exact Or.inr ⟨hz0, _, hcl6, h3⟩)
  obtain ⟨g₀, hfr⟩ := X'.frames_eq
  have hcell9 : ((T.setVm vm').setFrames (.throwing q :: below)).heap[q]? = some ce := by
    show T.heap[q]? = some ce
    rw [hT]; exact hcell
  have hend : Ended ((T.setVm vm').setFrames (.throwing q :: below)) below (.threw q) := State.frames_setFrames _ (State.cur_lt_of_frames hfr)
  refine ⟨(T.setVm vm').setFrames (.throwing q :: below), ?_, .threw q, X'.here.running, hend, Or.inr ⟨q, rfl, E, ce, locs, hx _ hT (X'.ends _).1.alike, hcell9, hv, hcl, (X'.ends _).1, (X'.ends _).2.mono hc hs, hf⟩⟩
  rw [X.pushThrowing_eq]
  exact st
/-- a thing of a world lies in the heap -/
theorem vx_lt {D : va_G} {cl : List vw_C} {ws : va_W} {H1 : Heap} (h : va_P D cl ws H1) {k : Nat} {q : Nat × va_E} (hk : ws[k]? = some q) : q.1 < H1.size := (h k q hk).lt
end VXS
/-! ===== END ===== -/
/-! ===== BEGIN methods with a table of their own: called by a name, returning or throwing ===== -/
section VXH
/-! vx_backW, vx_callVX, vx_callSX, vx_callVW, vx_runVW, vx_runVX, vx_runSX, vx_ofWH follow the same proofs as their sisters above (Free/Laws.lean, Shelf42/LK1.lean); vx_outP calls Shelf42/NT130.lean (outThrough). -/
section
variable {l : Launch} {R : Room} {p : Program} {e : Env} {below : List Frame} {s : State} {sargs : Array Value} {y : MethodName} {len W9 : Nat}
theorem vx_backW {ws : List Cond} {rm : Room} {Pc : Array Value → State → Prop} {Qc : Array Value → State → Outcome → State → Prop} {XC : String → State → State → Prop} {mc ms : Nat} {free : Addr → Prop} {bytes : ByteArray} {maxL : Nat} {ret : Option FieldType} {hh : List (Nat × Nat × Nat × Nat)}
    (hM : vx_Met l y ws rm Pc Qc XC mc ms free) (hblind : FrameBlind Pc) (hrc : rm.cells = mc) (hrs : rm.slots = ms)
    (hframes : rm.frames + 1 ≤ R.frames) (hlocals : W9 + (maxL + 11) + rm.locals ≤ R.locals)
    (hws : ∀ w ∈ ws, ∀ a' U, s.WarmedH U.vm → w.before a' U = true) (hcode : Cond.codeWith y bytes maxL ret hh ∈ ws) (hinit : ∀ a' U, s.WarmedH U.vm → (Cond.initialized y.cls).before a' U = true) :
    vx_Back l R p e below s sargs y len W9 (PreOf R mc ms Pc) (PostOf Qc mc ms free) (vx_Post XC mc ms free) := by
  intro m meth c A g ig mk a X hg hsize hdg hW hn hp
  have h1 : (headSpec ws rm).pre.before a A.U = true := atoms_intro fun w hw => hws w hw _ _ X.warmed
  have h2 : (Cond.codeWith y bytes maxL ret hh).before a A.U = true := hws _ hcode _ _ X.warmed
  have h3 : (Cond.initialized y.cls).before a A.U = true := hinit _ _ X.warmed
  have h4 : A.cells + (headSpec ws rm).room.cells ≤ R.cells := by rw [show (headSpec ws rm).room.cells = mc from hrc]; exact hp.1
  have h5 : A.slots + (headSpec ws rm).room.slots ≤ R.slots := by rw [show (headSpec ws rm).room.slots = ms from hrs]; exact hp.2.1
  have hPc : Pc a (A.U.calling g mk a) := hblind _ _ _ _ hp.2.2
  obtain ⟨U, Ls, c0, s0⟩ := A
  dsimp only [Pt.U, Pt.locs, Pt.cells, Pt.slots] at h1 h2 h3 h4 h5 X hn hPc ⊢
  obtain ⟨m9, methY, cY, hn9, hmY, hcY, -, hlY, -⟩ := Cond.codeWith_spec h2
  cases Option.some.inj (hn9.symm.trans hn)
  obtain ⟨kY, hkY, -⟩ := className_of_methodNamed hn
  have hinitY : kY.init = .initialized := Cond.initialized_spec (findClass_of_methodNamed hn) hkY h3
  have h : At U g.method c below := by rw [hg]; exact X.here
  have hlocals9 : W9 + (maxL + 11) + (headSpec ws rm).room.locals ≤ R.locals := hlocals
  have happ : (headSpec ws rm).appliesLoose y e.platform (U.calling g mk a) = true :=
    Spec.appliesLoose_calling (g := g) h hdg hn hkY hinitY
      (X.room_calling (g := g) (R' := (headSpec ws rm).room) hsize hmY hcY hframes (by rw [hlY]; omega) h4 h5) h1
  obtain ⟨mid, hmid⟩ := h.above
  have hfr : (U.setTop g).frames = (.java g :: mid) ++ below := by rw [State.frames_setTop' g h.top, hmid]; rfl
  obtain ⟨o, s₂, hsteps, -, hend, hq⟩ := Steps.callFree hM p X.admits X.cas X.clock (acts := []) hfr happ hPc trivial
  have hq' : vx_Q Qc XC mc ms free a (U.calling g mk a) o s₂ := hq
  rw [State.frames_setTop' g h.top] at hend
  obtain ⟨g₀, hg0⟩ := Option.isSome_iff_exists.mp h.top
  obtain ⟨r, hr⟩ := State.topJava?_eq_some.mp hg0
  have hr' : (({ U with heap := s₂.heap, slotsUsed := s₂.slotsUsed } : State).setVm s₂.vm).frames = .java g₀ :: r := hr
  rcases hq' with ⟨hqc, L, hfe, hL⟩ | ⟨q, rfl, E, ce, L, hx, hce, hcv, hcl, hW₂, hsm, hL⟩
  · obtain ⟨⟨v, rfl⟩, hW₂, e2, q2, q3, q4, q5, q6⟩ := id hfe
    have e3 : s₂ = ({ (U.calling g mk a).setFrames s₂.frames with heap := s₂.heap, slotsUsed := s₂.slotsUsed } : State).setVm s₂.vm := by
      have : s₂ = ({ s₂ with vm := (U.calling g mk a).vm } : State).setVm s₂.vm := rfl
      rw [e2] at this
      exact this
    obtain ⟨c₂, i₂, len₂, hc₂, hd₂, hf₂⟩ := hend
    have hW' : U.WarmedH s₂.vm := hW₂
    have hcc : c₂ = c := by
      have h1 : s₂.code? g.method = U.code? g.method := by
        rw [State.code?_eq, State.code?_eq, hW'.alike.method?]
      exact Option.some.inj (hc₂.symm.trans (h1.trans h.code))
    subst hcc
    have hlen : len₂ = len := by rw [hdg] at hd₂; cases hd₂; rfl
    subst hlen
    have hs₂ : s₂ = (({ U with heap := s₂.heap, slotsUsed := s₂.slotsUsed } : State).setVm s₂.vm).setTop { g with pc := g.pc + len₂, stack := v.toList ++ g.stack } := by
      refine e3.trans ?_
      rw [hf₂, State.calling_eq h.top, State.setFrames_setFrames, State.setTop_of_frames _ hr', hr]
      rfl
    have hsame : U.sameButNew ({ U with heap := s₂.heap, slotsUsed := s₂.slotsUsed } : State) L mc ms := by
      refine ⟨?_, q2, q3, q4, q5, q6⟩
      obtain ⟨t, ht, -⟩ := State.frames_cons hr
      show ({ U with heap := s₂.heap, slotsUsed := s₂.slotsUsed } : State) = { U.setFrames U.frames with heap := s₂.heap, slotsUsed := s₂.slotsUsed }
      rw [State.setFrames_self ht]
    subst hg
    refine Or.inl ⟨v, ⟨(({ U with heap := s₂.heap, slotsUsed := s₂.slotsUsed } : State).setVm s₂.vm), Ls ++ L, c0 + mc, s0 + ms⟩,
      ⟨X.admits, X.cas, X.clock, X.frames, X.room, X.hears, X.method, X.code, (X.here.setHeapUsed s₂.heap s₂.slotsUsed).setVm hW'.alike, X.tail, State.WarmedH.trans X.warmed hW', X.limits, X.bytes, X.same.trans (hsame.setVm s.vm)⟩,
      ⟨g, mk, s₂, L, rfl, rfl, hqc, rfl, hL, rfl, rfl⟩, ?_⟩
    show Steps p.tables e below _ ((({ U with heap := s₂.heap, slotsUsed := s₂.slotsUsed } : State).setVm s₂.vm).setTop { g with pc := g.pc + len₂, stack := v.toList ++ g.stack })
    rw [← hs₂]
    exact hsteps
  · obtain ⟨e2, q2, q3, q4, q5, q6⟩ := id hsm
    have e3 : s₂ = ({ (U.calling g mk a).setFrames s₂.frames with heap := s₂.heap, slotsUsed := s₂.slotsUsed } : State).setVm s₂.vm := by
      have : s₂ = ({ s₂ with vm := (U.calling g mk a).vm } : State).setVm s₂.vm := rfl
      rw [e2] at this
      exact this
    have hf₂ : s₂.frames = .throwing q :: .java g :: U.frames.tail := hend
    have hW' : U.WarmedH s₂.vm := hW₂
    have hs₂ : s₂ = ((({ U with heap := s₂.heap, slotsUsed := s₂.slotsUsed } : State).setVm s₂.vm).setTop g).pushFrame (.throwing q) := by
      refine e3.trans ?_
      rw [hf₂, State.calling_eq h.top, State.setFrames_setFrames, State.pushFrame, State.frames_setTop _ hr', State.setTop_of_frames _ hr', State.setFrames_setFrames, hr]
      rfl
    have hsame : U.sameButNew ({ U with heap := s₂.heap, slotsUsed := s₂.slotsUsed } : State) L mc ms := by
      refine ⟨?_, q2, q3, q4, q5, q6⟩
      obtain ⟨t, ht, -⟩ := State.frames_cons hr
      show ({ U with heap := s₂.heap, slotsUsed := s₂.slotsUsed } : State) = { U.setFrames U.frames with heap := s₂.heap, slotsUsed := s₂.slotsUsed }
      rw [State.setFrames_self ht]
    subst hg
    refine Or.inr ⟨q, ⟨(({ U with heap := s₂.heap, slotsUsed := s₂.slotsUsed } : State).setVm s₂.vm), Ls ++ L, c0 + mc, s0 + ms⟩,
      ⟨X.admits, X.cas, X.clock, X.frames, X.room, X.hears, X.method, X.code, (X.here.setHeapUsed s₂.heap s₂.slotsUsed).setVm hW'.alike, X.tail, State.WarmedH.trans X.warmed hW', X.limits, X.bytes, X.same.trans (hsame.setVm s.vm)⟩,
      ⟨g, mk, s₂, L, E, ce, rfl, rfl, hx, hce, hcv, hcl, rfl, hL, rfl, rfl⟩, ?_⟩
    show Steps p.tables e below _ (((({ U with heap := s₂.heap, slotsUsed := s₂.slotsUsed } : State).setVm s₂.vm).setTop g).pushFrame (.throwing q))
    rw [← hs₂]
    exact hsteps
end
variable {p : Program} {l : Launch} {e : Env} {R : Room} {s : State} {m : MethodId} {args : Array Value} {below : List Frame} {meth : Method} {c : Code} {T : State} {H : Heap} {locs : List Loc} {cells slots : Nat}
theorem vx_callVX (X : Stand p l e R s m args below meth c T locs cells slots) (hexec : p.tables.exec = Jvm.exec) {own C : String} {index : Nat} {y : MethodName} {bytes : ByteArray} {maxL : Nat} {ret : Option FieldType} {hh : List (Nat × Nat × Nat × Nat)}
    (hown : s.vm.findClass own = some m.cls) (hlink : (Cond.methodLink own index y).before args s = true) (hinst : (Cond.instanceMethod y).before args s = true) (hsel : (Cond.selects C y y).before args s = true)
    (hcode : (Cond.codeWith y bytes maxL ret hh).before args s = true) (hy : y.cls ≠ "java/lang/invoke/MethodHandle" ∧ y.cls ≠ "java/lang/invoke/VarHandle")
    {W9 : Nat} {Pre : Pt → Array Value → Prop} {Post : Pt → Array Value → Option Value → Pt → Prop} {PostX : Pt → Array Value → Addr → Pt → Prop} (hK : vx_Back l R p e below s args y 3 W9 Pre Post PostX)
    {b : Addr} {cellB : Cell} (hcell : T.heap[b]? = some cellB) (hobj : cellB.vm.isStatics = false) (hcls : s.vm.findClass C = some cellB.cls)
    {g : JFrame} (hg : g.method = m) (hsize : g.locals.size = c.maxLocals) {argsL rest : List Value} (hlen : ∀ sig, parseMethodDescriptor y.desc = some sig → argsL.length = sig.parameters.length)
    (hstack : g.stack = argsL.reverse ++ .ref b :: rest) (hW : 2 * g.monitorRoom + (rest.map fun v => v.category).sum ≤ W9) (hdg : decode c.code g.pc = .ok (.invokevirtual index, 3))
    (hpre : ∀ vm₁, s.WarmedH vm₁ → Pre ⟨T.setVm vm₁, locs, cells, slots⟩ (Value.ref b :: argsL).toArray) :
    (∃ (v : Option Value) (vm₁ : Vm) (B : Pt), s.WarmedH vm₁ ∧ Stand p l e R s m args below meth c B.U B.locs B.cells B.slots ∧ Post ⟨T.setVm vm₁, locs, cells, slots⟩ (Value.ref b :: argsL).toArray v B ∧
      ∀ target, Steps p.tables e below (B.U.setTop { g with pc := g.pc + 3, stack := v.toList ++ rest }) target → Steps p.tables e below (T.setTop g) target) ∨
    (∃ (q : Addr) (vm₁ : Vm) (B : Pt), s.WarmedH vm₁ ∧ Stand p l e R s m args below meth c B.U B.locs B.cells B.slots ∧ PostX ⟨T.setVm vm₁, locs, cells, slots⟩ (Value.ref b :: argsL).toArray q B ∧
      Steps p.tables e below (T.setTop g) ((B.U.setTop { g with stack := rest }).pushFrame (.throwing q))) := by
  obtain ⟨mk, methM, hnamed, hmethM, hstM, habM⟩ := Cond.instanceMethod_spec hinst
  obtain ⟨m8, methM', cM, hn8, hmethM', -, -, -, -, -, -, hsigM⟩ := Cond.codeWith_spec hcode
  cases Option.some.inj (hn8.symm.trans hnamed)
  cases hmethM.symm.trans hmethM'
  obtain ⟨c2, r2, m2, q1, q2, q3, q4, kP, hkP, hkPi⟩ := Cond.selects_spec hsel
  cases hcls.symm.trans q1
  cases (State.methodFound?_of_named hnamed hy).symm.trans q2
  cases hnamed.symm.trans q3
  have hselP : selectMethod e.platform s.vm cellB.cls mk = .method mk := by rw [Launch.admits_selectMethod X.admits]; exact q4
  obtain ⟨vm₁, X₁, hstep₁⟩ := X.invokevirtual hexec hown hlink hnamed hmethM hstM hkP hkPi hy (a := b) (cell := cellB) hcell
    (fun z h => by rw [h] at hobj; cases hobj) hselP hmethM habM hkP hkPi (g := g) hg (argsL := argsL) (rest := rest) (hlen _ hsigM) hstack hdg
  rcases hK m meth c ⟨T.setVm vm₁, locs, cells, slots⟩ { g with stack := rest } (.invokevirtual index) mk (Value.ref b :: argsL).toArray X₁ hg hsize hdg hW (X₁.named hnamed) (hpre vm₁ X₁.warmed) with ⟨v, B, X', hpost, hsteps⟩ | ⟨q, B, X', hpost, hsteps⟩
  · exact Or.inl ⟨v, vm₁, B, X₁.warmed, X', hpost, fun target h => hstep₁ _ fun acts => by rw [doInvoke_state]; exact hsteps.trans h⟩
  · exact Or.inr ⟨q, vm₁, B, X₁.warmed, X', hpost, hstep₁ _ fun acts => by rw [doInvoke_state]; exact hsteps⟩
theorem vx_callSX (X : Stand p l e R s m args below meth c T locs cells slots) (hexec : p.tables.exec = Jvm.exec) {own : String} {index : Nat} {y : MethodName} {bytes : ByteArray} {maxL : Nat} {ret : Option FieldType} {hh : List (Nat × Nat × Nat × Nat)}
    (hown : s.vm.findClass own = some m.cls) (hlink : (Cond.methodLink own index y).before args s = true) (hstat : (Cond.static y).before args s = true) (hinit : (Cond.initialized y.cls).before args s = true)
    (hcode : (Cond.codeWith y bytes maxL ret hh).before args s = true) (hy : y.cls ≠ "java/lang/invoke/MethodHandle" ∧ y.cls ≠ "java/lang/invoke/VarHandle")
    {W9 : Nat} {Pre : Pt → Array Value → Prop} {Post : Pt → Array Value → Option Value → Pt → Prop} {PostX : Pt → Array Value → Addr → Pt → Prop} (hK : vx_Back l R p e below s args y 3 W9 Pre Post PostX)
    {g : JFrame} (hg : g.method = m) (hsize : g.locals.size = c.maxLocals) {argsL rest : List Value} (hlen : ∀ sig, parseMethodDescriptor y.desc = some sig → argsL.length = sig.parameters.length)
    (hstack : g.stack = argsL.reverse ++ rest) (hW : 2 * g.monitorRoom + (rest.map fun v => v.category).sum ≤ W9) (hdg : decode c.code g.pc = .ok (.invokestatic index, 3))
    (hpre : ∀ vm₁, s.WarmedH vm₁ → Pre ⟨T.setVm vm₁, locs, cells, slots⟩ argsL.toArray) :
    (∃ (v : Option Value) (vm₁ : Vm) (B : Pt), s.WarmedH vm₁ ∧ Stand p l e R s m args below meth c B.U B.locs B.cells B.slots ∧ Post ⟨T.setVm vm₁, locs, cells, slots⟩ argsL.toArray v B ∧
      ∀ target, Steps p.tables e below (B.U.setTop { g with pc := g.pc + 3, stack := v.toList ++ rest }) target → Steps p.tables e below (T.setTop g) target) ∨
    (∃ (q : Addr) (vm₁ : Vm) (B : Pt), s.WarmedH vm₁ ∧ Stand p l e R s m args below meth c B.U B.locs B.cells B.slots ∧ PostX ⟨T.setVm vm₁, locs, cells, slots⟩ argsL.toArray q B ∧
      Steps p.tables e below (T.setTop g) ((B.U.setTop { g with stack := rest }).pushFrame (.throwing q))) := by
  obtain ⟨mk, methM, cM, hnamed, hmethM, -, -, -, -, -, -, hsigM⟩ := Cond.codeWith_spec hcode
  have hstatic : methM.isStatic = true := Cond.static_spec hnamed hmethM hstat
  obtain ⟨kP, hkP, -⟩ := className_of_methodNamed hnamed
  have hinitP : kP.init = .initialized := Cond.initialized_spec (findClass_of_methodNamed hnamed) hkP hinit
  obtain ⟨vm₁, X₁, hstep₁⟩ := X.invokestatic hexec hown hlink hnamed hmethM hstatic hkP hinitP hy (g := g) hg (argsL := argsL) (rest := rest) (hlen _ hsigM) hstack hdg
  rcases hK m meth c ⟨T.setVm vm₁, locs, cells, slots⟩ { g with stack := rest } (.invokestatic index) mk argsL.toArray X₁ hg hsize hdg hW (X₁.named hnamed) (hpre vm₁ X₁.warmed) with ⟨v, B, X', hpost, hsteps⟩ | ⟨q, B, X', hpost, hsteps⟩
  · exact Or.inl ⟨v, vm₁, B, X₁.warmed, X', hpost, fun target h => hstep₁ _ fun acts => by rw [doInvoke_state]; exact hsteps.trans h⟩
  · exact Or.inr ⟨q, vm₁, B, X₁.warmed, X', hpost, hstep₁ _ fun acts => by rw [doInvoke_state]; exact hsteps⟩
theorem vx_callVW (X : Stand p l e R s m args below meth c T locs cells slots) (hexec : p.tables.exec = Jvm.exec) {own C : String} {index : Nat} {y : MethodName} {bytes : ByteArray} {maxL : Nat} {ret : Option FieldType} {hh : List (Nat × Nat × Nat × Nat)}
    (hown : s.vm.findClass own = some m.cls) (hlink : (Cond.methodLink own index y).before args s = true) (hinst : (Cond.instanceMethod y).before args s = true) (hsel : (Cond.selects C y y).before args s = true)
    (hcode : (Cond.codeWith y bytes maxL ret hh).before args s = true) (hy : y.cls ≠ "java/lang/invoke/MethodHandle" ∧ y.cls ≠ "java/lang/invoke/VarHandle")
    {W9 : Nat} {Pre : Pt → Array Value → Prop} {Post : Pt → Array Value → Option Value → Pt → Prop} (hK : Back l R p e below s args y 3 W9 Pre Post)
    {b : Addr} {cellB : Cell} (hcell : T.heap[b]? = some cellB) (hobj : cellB.vm.isStatics = false) (hcls : s.vm.findClass C = some cellB.cls)
    {g : JFrame} (hg : g.method = m) (hsize : g.locals.size = c.maxLocals) {argsL rest : List Value} (hlen : ∀ sig, parseMethodDescriptor y.desc = some sig → argsL.length = sig.parameters.length)
    (hstack : g.stack = argsL.reverse ++ .ref b :: rest) (hW : 2 * g.monitorRoom + (rest.map fun v => v.category).sum ≤ W9) (hdg : decode c.code g.pc = .ok (.invokevirtual index, 3))
    (hpre : ∀ vm₁, s.WarmedH vm₁ → Pre ⟨T.setVm vm₁, locs, cells, slots⟩ (Value.ref b :: argsL).toArray) :
    ∃ (v : Option Value) (vm₁ : Vm) (B : Pt), s.WarmedH vm₁ ∧ Stand p l e R s m args below meth c B.U B.locs B.cells B.slots ∧ Post ⟨T.setVm vm₁, locs, cells, slots⟩ (Value.ref b :: argsL).toArray v B ∧
      ∀ target, Steps p.tables e below (B.U.setTop { g with pc := g.pc + 3, stack := v.toList ++ rest }) target → Steps p.tables e below (T.setTop g) target := by
  obtain ⟨mk, methM, hnamed, hmethM, hstM, habM⟩ := Cond.instanceMethod_spec hinst
  obtain ⟨m8, methM', cM, hn8, hmethM', -, -, -, -, -, -, hsigM⟩ := Cond.codeWith_spec hcode
  cases Option.some.inj (hn8.symm.trans hnamed)
  cases hmethM.symm.trans hmethM'
  obtain ⟨c2, r2, m2, q1, q2, q3, q4, kP, hkP, hkPi⟩ := Cond.selects_spec hsel
  cases hcls.symm.trans q1
  cases (State.methodFound?_of_named hnamed hy).symm.trans q2
  cases hnamed.symm.trans q3
  have hselP : selectMethod e.platform s.vm cellB.cls mk = .method mk := by rw [Launch.admits_selectMethod X.admits]; exact q4
  obtain ⟨vm₁, X₁, hstep₁⟩ := X.invokevirtual hexec hown hlink hnamed hmethM hstM hkP hkPi hy (a := b) (cell := cellB) hcell
    (fun z h => by rw [h] at hobj; cases hobj) hselP hmethM habM hkP hkPi (g := g) hg (argsL := argsL) (rest := rest) (hlen _ hsigM) hstack hdg
  obtain ⟨v, B, X', hpost, hsteps⟩ := hK m meth c ⟨T.setVm vm₁, locs, cells, slots⟩ { g with stack := rest } (.invokevirtual index) mk (Value.ref b :: argsL).toArray X₁ hg hsize hdg hW (X₁.named hnamed) (hpre vm₁ X₁.warmed)
  exact ⟨v, vm₁, B, X₁.warmed, X', hpost, fun target h => hstep₁ _ fun acts => by rw [doInvoke_state]; exact hsteps.trans h⟩
abbrev vx_CVW (R : Room) (s : State) (args : Array Value) (own C : String) (index : Nat) (y : MethodName) (bytes : ByteArray) (maxL : Nat) (ret : Option FieldType) (hh : List (Nat × Nat × Nat × Nat)) (ws : List Cond) (rm : Room) (mc ms n : Nat) : Prop :=
  (rm.cells = mc ∧ rm.slots = ms ∧ rm.frames + 1 ≤ R.frames ∧ 8 + (maxL + 11) + rm.locals ≤ R.locals ∧ (∀ w ∈ ws, ∀ (a' : Array Value) (U : State), s.WarmedH U.vm → w.before a' U = true) ∧ Cond.codeWith y bytes maxL ret hh ∈ ws) ∧
  (Cond.codeWith y bytes maxL ret hh).before args s = true ∧ (Cond.initialized y.cls).before args s = true ∧ (y.cls ≠ "java/lang/invoke/MethodHandle" ∧ y.cls ≠ "java/lang/invoke/VarHandle") ∧
  (∀ sig, parseMethodDescriptor y.desc = some sig → n = sig.parameters.length) ∧ (Cond.methodLink own index y).before args s = true ∧ (Cond.instanceMethod y).before args s = true ∧ (Cond.selects C y y).before args s = true
theorem vx_cwVW {own C : String} {index maxL mc ms : Nat} {y : MethodName} {bytes : ByteArray} {ret : Option FieldType} {hh : List (Nat × Nat × Nat × Nat)} {Ts ws ws' : List Cond} {rm : Room} (n : Nat) (ht : ∀ w ∈ Ts, w.before args s = true) (hT : GoodIn Ts (wsV own index C y ws)) (hw : ws = Cond.codeWith y bytes maxL ret hh :: ws') (hrc : rm.cells = mc) (hrs : rm.slots = ms)
    (hd : y.cls = C ∧ y.cls ≠ "java/lang/invoke/MethodHandle" ∧ y.cls ≠ "java/lang/invoke/VarHandle" ∧ (parseMethodDescriptor y.desc).map (fun d => d.parameters.length) = some n) (hR : rm.frames + 1 ≤ R.frames ∧ 8 + (maxL + 11) + rm.locals ≤ R.locals) :
    vx_CVW R s args own C index y bytes maxL ret hh ws rm mc ms n := by
  obtain ⟨hC, hd⟩ := hd
  subst hC
  have ok : ∀ w ∈ wsV own index y.cls y ws, w.before args s = true := fun w h => ht w (hT w h).1
  have hG : GoodIn Ts ws := fun w h => hT w (by unfold wsV; exact List.mem_append_right _ h)
  have hc : Cond.codeWith y bytes maxL ret hh ∈ ws := by rw [hw]; exact List.mem_cons_self
  refine ⟨⟨hrc, hrs, hR.1, hR.2, pay_in ht hG, hc⟩, ht _ (hG _ hc).1, ok _ (by simp [wsV]), ⟨hd.1, hd.2.1⟩, fun sig h => ?_, ok _ (by simp [wsV]), ok _ (by simp [wsV]), ok _ (by simp [wsV])⟩
  have h2 := hd.2.2
  rw [h] at h2
  exact (Option.some.inj h2).symm
theorem vx_runVW {y : MethodName} {bytes cc : ByteArray} {maxL nL mc ms n index : Nat} {ret : Option FieldType} {hh : List (Nat × Nat × Nat × Nat)} {ws : List Cond} {rm : Room} {Pc : Array Value → State → Prop} {Qc : Array Value → State → Outcome → State → Prop} {free : Addr → Prop} {Ts : List Cond} {own C : String} {b : Addr} {As rest : List Value} {g : JFrame}
    (S : CallFix p m c cc nL s args Ts own) (hM : Met l y ws rm Pc Qc mc ms free) (cw : vx_CVW R s args own C index y bytes maxL ret hh ws rm mc ms n) (hp : PreV s H C b Pc As)
    (hg : g.method = m) (hn : As.length = n) (hsize : g.locals.size = nL) (hstack : g.stack = As.reverse ++ .ref b :: rest) (hW : 2 * g.monitorRoom + (rest.map fun v => v.category).sum ≤ 8) (hdg : decode cc g.pc = .ok (.invokevirtual index, 3)) (hf : cells + mc ≤ R.cells ∧ slots + ms ≤ R.slots) :
    va_Run p l e R s m args below meth c H locs cells slots mc ms g rest (Qc (Value.ref b :: As).toArray) free := by
  obtain ⟨⟨hrc, hrs, hfr, hlo, hws, hcw⟩, hcode, hini, hy, hlen, hl, hin, hse⟩ := cw
  have hK : Back l R p e below s args y 3 8 (PreOf R mc ms Pc) (PostOf Qc mc ms free) := va_backW (hh := hh) (bytes := bytes) (maxL := maxL) (ret := ret) hM hp.1 hrc hrs hfr hlo hws hcw (fun a' U hW => word_at hW (Or.inl (by first | rfl | simp [Cond.onTables, Cond.keeps, Cond.steady])) hini)
  obtain ⟨hx, hb, hml, ho, -⟩ := S
  obtain ⟨-, ⟨cellB, hcB, hoB, hclB⟩, hPc⟩ := hp
  intro T hT X
  obtain ⟨v, vm₁, ⟨U', l2, c2, s2⟩, hW₁, X', ⟨g', mk, t, L, e1, e2, hq, h1, hL, h2, h3⟩, st⟩ := vx_callVW X hx (C := C) (hh := hh) (bytes := bytes) (maxL := maxL) (ret := ret) ho hl hin hse hcode hy hK (by rw [hT]; exact hcB) hoB hclB hg (hsize.trans hml.symm) (argsL := As) (rest := rest) (fun sig h => hn.trans (hlen sig h)) hstack hW (by rw [hb]; exact hdg)
    (fun vm₁ hW₁ => ⟨hf.1, hf.2, hPc (T.setVm vm₁) hT hW₁⟩)
  dsimp only [Pt.U, Pt.locs, Pt.cells, Pt.slots] at X' e1 e2 h1 h2 h3 st
  subst h1; subst h2; subst h3
  exact ⟨v, (T.setVm vm₁).calling g' mk (Value.ref b :: As).toArray, t, U', L, hT, X', hL, e1, e2, hq, st⟩
section
variable {y : MethodName} {bytes cc : ByteArray} {maxL nL mc ms n index : Nat} {ret : Option FieldType} {ws : List Cond} {rm : Room} {Pc : Array Value → State → Prop} {Qc : Array Value → State → Outcome → State → Prop} {XC : String → State → State → Prop} {free : Addr → Prop} {Ts : List Cond} {own C : String} {b : Addr} {As rest : List Value} {g : JFrame}
theorem vx_runVX {hh : List (Nat × Nat × Nat × Nat)} (S : CallFix p m c cc nL s args Ts own) (hM : vx_Met l y ws rm Pc Qc XC mc ms free) (cw : vx_CVW R s args own C index y bytes maxL ret hh ws rm mc ms n) (hp : PreV s H C b Pc As)
    (hg : g.method = m) (hn : As.length = n) (hsize : g.locals.size = nL) (hstack : g.stack = As.reverse ++ .ref b :: rest) (hW : 2 * g.monitorRoom + (rest.map fun v => v.category).sum ≤ 8) (hdg : decode cc g.pc = .ok (.invokevirtual index, 3)) (hf : cells + mc ≤ R.cells ∧ slots + ms ≤ R.slots) :
    vx_Run p l e R s m args below meth c H locs cells slots mc ms g rest (Qc (Value.ref b :: As).toArray) XC free := by
  obtain ⟨⟨hrc, hrs, hfr, hlo, hws, hcw⟩, hcode, hini, hy, hlen, hl, hin, hse⟩ := cw
  have hK : vx_Back l R p e below s args y 3 8 (PreOf R mc ms Pc) (PostOf Qc mc ms free) (vx_Post XC mc ms free) := vx_backW (hh := hh) (bytes := bytes) (maxL := maxL) (ret := ret) hM hp.1 hrc hrs hfr hlo hws hcw (fun a' U hW => word_at hW (Or.inl (by first | rfl | simp [Cond.onTables, Cond.keeps, Cond.steady])) hini)
  obtain ⟨hx, hb, hml, ho, -⟩ := S
  obtain ⟨-, ⟨cellB, hcB, hoB, hclB⟩, hPc⟩ := hp
  intro T hT X
  rcases vx_callVX X hx (C := C) (hh := hh) (bytes := bytes) (maxL := maxL) (ret := ret) ho hl hin hse hcode hy hK (by rw [hT]; exact hcB) hoB hclB hg (hsize.trans hml.symm) (argsL := As) (rest := rest) (fun sig h => hn.trans (hlen sig h)) hstack hW (by rw [hb]; exact hdg)
    (fun vm₁ hW₁ => ⟨hf.1, hf.2, hPc (T.setVm vm₁) hT hW₁⟩) with ⟨v, vm₁, ⟨U', l2, c2, s2⟩, hW₁, X', ⟨g', mk, t, L, e1, e2, hq, h1, hL, h2, h3⟩, st⟩ | ⟨q, vm₁, ⟨U', l2, c2, s2⟩, hW₁, X', ⟨g', mk, t, L, E, ce, e1, e2, hq, hce, hcv, hcl, h1, hL, h2, h3⟩, st⟩
  · dsimp only [Pt.U, Pt.locs, Pt.cells, Pt.slots] at X' e1 e2 h1 h2 h3 st
    subst h1; subst h2; subst h3
    exact Or.inl ⟨v, (T.setVm vm₁).calling g' mk (Value.ref b :: As).toArray, t, U', L, hT, X', hL, e1, e2, hq, st⟩
  · dsimp only [Pt.U, Pt.locs, Pt.cells, Pt.slots] at X' e1 e2 h1 h2 h3 st hcl
    subst h1; subst h2; subst h3
    exact Or.inr ⟨q, (T.setVm vm₁).calling g' mk (Value.ref b :: As).toArray, t, U', L, E, ce, hT, X', hL, e1, e2, hq, hce, hcv, vx_cls hW₁ hcl, st⟩
theorem vx_runSX {hh : List (Nat × Nat × Nat × Nat)} (S : CallFix p m c cc nL s args Ts own) (hM : vx_Met l y ws rm Pc Qc XC mc ms free) (cw : vx_CSW R s args own index y bytes maxL ret hh ws rm mc ms n) (hp : PreS s H Pc As)
    (hg : g.method = m) (hn : As.length = n) (hsize : g.locals.size = nL) (hstack : g.stack = As.reverse ++ rest) (hW : 2 * g.monitorRoom + (rest.map fun v => v.category).sum ≤ 8) (hdg : decode cc g.pc = .ok (.invokestatic index, 3)) (hf : cells + mc ≤ R.cells ∧ slots + ms ≤ R.slots) :
    vx_Run p l e R s m args below meth c H locs cells slots mc ms g rest (Qc As.toArray) XC free := by
  obtain ⟨⟨hrc, hrs, hfr, hlo, hws, hcw⟩, hcode, hini, hy, hlen, hl, hstt⟩ := cw
  have hK : vx_Back l R p e below s args y 3 8 (PreOf R mc ms Pc) (PostOf Qc mc ms free) (vx_Post XC mc ms free) := vx_backW (hh := hh) (bytes := bytes) (maxL := maxL) (ret := ret) hM hp.1 hrc hrs hfr hlo hws hcw (fun a' U hW => word_at hW (Or.inl (by first | rfl | simp [Cond.onTables, Cond.keeps, Cond.steady])) hini)
  obtain ⟨hx, hb, hml, ho, -⟩ := S
  intro T hT X
  rcases vx_callSX X hx (hh := hh) (bytes := bytes) (maxL := maxL) (ret := ret) ho hl hstt hini hcode hy hK hg (hsize.trans hml.symm) (argsL := As) (rest := rest) (fun sig h => hn.trans (hlen sig h)) hstack hW (by rw [hb]; exact hdg)
    (fun vm₁ hW₁ => ⟨hf.1, hf.2, hp.2 (T.setVm vm₁) hT hW₁⟩) with ⟨v, vm₁, ⟨U', l2, c2, s2⟩, hW₁, X', ⟨g', mk, t, L, e1, e2, hq, h1, hL, h2, h3⟩, st⟩ | ⟨q, vm₁, ⟨U', l2, c2, s2⟩, hW₁, X', ⟨g', mk, t, L, E, ce, e1, e2, hq, hce, hcv, hcl, h1, hL, h2, h3⟩, st⟩
  · dsimp only [Pt.U, Pt.locs, Pt.cells, Pt.slots] at X' e1 e2 h1 h2 h3 st
    subst h1; subst h2; subst h3
    exact Or.inl ⟨v, (T.setVm vm₁).calling g' mk As.toArray, t, U', L, hT, X', hL, e1, e2, hq, st⟩
  · dsimp only [Pt.U, Pt.locs, Pt.cells, Pt.slots] at X' e1 e2 h1 h2 h3 st hcl
    subst h1; subst h2; subst h3
    exact Or.inr ⟨q, (T.setVm vm₁).calling g' mk As.toArray, t, U', L, E, ce, hT, X', hL, e1, e2, hq, hce, hcv, vx_cls hW₁ hcl, st⟩
end
end VXH
theorem vx_ofWH {l : Launch} {y : MethodName} {ws ws' : List Cond} {rm : Room} {Pc : Array Value → State → Prop} {Qc : Array Value → State → Outcome → State → Prop} {XC : String → State → State → Prop} {mc ms : Nat} {free : Addr → Prop} {cc : ByteArray} {maxL : Nat} {ret : Option FieldType} {hh : List (Nat × Nat × Nat × Nat)}
    (hy : plainName y.cls = true) (hw : ws = Cond.codeWith y cc maxL ret hh :: ws')
    (body : ∀ p e s m args below meth c s₁, BodyLoose p l y (headSpec ws rm) cc maxL ret e s m args below meth c s₁ → c.maxLocals = maxL → Pc args s →
      W p l e (headSpec ws rm).room s m args below meth c s.heap [] 0 0 (vx_MQ below Qc XC args s mc ms free) (entryFrame m args maxL)) : vx_Met l y ws rm Pc Qc XC mc ms free := by
  refine MetFree.of_bodyS (code := cc) (maxLocals := maxL) (ret := ret) hy ?_ ?_
  · intro args s m h hn
    obtain ⟨m9, meth, c, hn9, h1, h2, h3, h4, -, h5, h6, -⟩ := Cond.codeWith_spec (atoms_spec (ws := ws) h _ (by rw [hw]; exact List.mem_cons_self))
    cases hn.symm.trans hn9
    exact ⟨meth, c, h1, h2, h3, h4, h5, h6⟩
  · intro p e s m args below meth c s₁ B hml hP _
    have hh0 : s₁.heap = s.heap := by rw [B.state]; rfl
    obtain ⟨t, a1, o, b1, b2, b3⟩ := body p e s m args below meth c s₁ B hml hP s₁ hh0 (Stand.of_body B)
    exact ⟨t, o, a1, b1, b2, b3⟩
/-! ===== END ===== -/
end
section
/-! ===== BEGIN printed: names, fields, word lists, decode rows ===== -/
def RX0 : String := "ParrotLog$Log"
def TX0 : u_T := fun k => match k with
  | 0 => ("ParrotLog$Log", "offsets", "[I", true)
  | 1 => ("ParrotLog$Log", "keys", "[I", true)
  | 2 => ("ParrotLog$Log", "values", "[I", true)
  | 3 => ("ParrotLog$Log", "stormNumbers", "[I", true)
  | 4 => ("ParrotLog$Log", "marked", "[Z", true)
  | 5 => ("ParrotLog$Log", "size", "I", false)
  | 6 => ("ParrotLog$Log", "next", "I", false)
  | _ => ("ParrotLog$Log", "droppedInAll", "I", false)
def tyX0 : Nat → FieldType := fun k => match k with
  | 0 => .array .int
  | 1 => .array .int
  | 2 => .array .int
  | 3 => .array .int
  | 4 => .array .boolean
  | 5 => .int
  | 6 => .int
  | _ => .int
abbrev wsX00 : List Cond := u_ws RX0 TX0 8
theorem nmX0 : ∀ a, a < 8 → ∀ b, b < 8 → a ≠ b → (TX0 a).2.1 ≠ (TX0 b).2.1 := by decide +kernel
theorem tyX0_ok : ∀ k, k < 8 → parseFieldDescriptor (TX0 k).2.2.1 = some (tyX0 k) := by decide +kernel
abbrev cX0_init : ByteArray := prog_2_method_1_code
def yX0_init : MethodName := ⟨RX0, "<init>", "()V"⟩
abbrev cX0_append : ByteArray := prog_2_method_2_code
def yX0_append : MethodName := ⟨RX0, "append", "(III)I"⟩
abbrev cX0_markFirst : ByteArray := prog_2_method_3_code
def yX0_markFirst : MethodName := ⟨RX0, "markFirst", "()V"⟩
abbrev cX0_markAhead : ByteArray := prog_2_method_4_code
def yX0_markAhead : MethodName := ⟨RX0, "markAhead", "(I)V"⟩
abbrev cX0_markCompacted : ByteArray := prog_2_method_5_code
def yX0_markCompacted : MethodName := ⟨RX0, "markCompacted", "(I)V"⟩
abbrev cX0_countMarked : ByteArray := prog_2_method_6_code
def yX0_countMarked : MethodName := ⟨RX0, "countMarked", "()I"⟩
abbrev cX0_countMarkedFrom : ByteArray := prog_2_method_7_code
def yX0_countMarkedFrom : MethodName := ⟨RX0, "countMarkedFrom", "(I)I"⟩
abbrev cX0_removeMarked : ByteArray := prog_2_method_8_code
def yX0_removeMarked : MethodName := ⟨RX0, "removeMarked", "()I"⟩
abbrev cX0_positionFrom : ByteArray := prog_2_method_9_code
def yX0_positionFrom : MethodName := ⟨RX0, "positionFrom", "(I)I"⟩
abbrev cX0_positionOf : ByteArray := prog_2_method_10_code
def yX0_positionOf : MethodName := ⟨RX0, "positionOf", "(I)I"⟩
abbrev cX0_latestPosition : ByteArray := prog_2_method_11_code
def yX0_latestPosition : MethodName := ⟨RX0, "latestPosition", "(III)I"⟩
abbrev cX0_latestOffset : ByteArray := prog_2_method_12_code
def yX0_latestOffset : MethodName := ⟨RX0, "latestOffset", "(I)I"⟩
abbrev cX0_latestValue : ByteArray := prog_2_method_13_code
def yX0_latestValue : MethodName := ⟨RX0, "latestValue", "(I)I"⟩
abbrev cX0_countKey : ByteArray := prog_2_method_14_code
def yX0_countKey : MethodName := ⟨RX0, "countKey", "(I)I"⟩
abbrev cX0_countStorm : ByteArray := prog_2_method_15_code
def yX0_countStorm : MethodName := ⟨RX0, "countStorm", "(I)I"⟩
abbrev cX0_countEqual : ByteArray := prog_2_method_16_code
def yX0_countEqual : MethodName := ⟨RX0, "countEqual", "([II)I"⟩
abbrev cX0_copyStorm : ByteArray := prog_2_method_17_code
def yX0_copyStorm : MethodName := ⟨RX0, "copyStorm", "(I[I[I)I"⟩
def RX1 : String := "ParrotLog$Ship"
def TX1 : u_T := fun k => match k with
  | 0 => ("ParrotLog$Ship", "known", "[I", true)
  | 1 => ("ParrotLog$Ship", "pace", "I", false)
  | 2 => ("ParrotLog$Ship", "offset", "I", false)
  | 3 => ("ParrotLog$Ship", "heard", "I", false)
  | _ => ("ParrotLog$Ship", "missed", "I", false)
def tyX1 : Nat → FieldType := fun k => match k with
  | 0 => .array .int
  | 1 => .int
  | 2 => .int
  | 3 => .int
  | _ => .int
abbrev wsX10 : List Cond := u_ws RX1 TX1 5
theorem nmX1 : ∀ a, a < 5 → ∀ b, b < 5 → a ≠ b → (TX1 a).2.1 ≠ (TX1 b).2.1 := by decide +kernel
theorem tyX1_ok : ∀ k, k < 5 → parseFieldDescriptor (TX1 k).2.2.1 = some (tyX1 k) := by decide +kernel
abbrev cX1_init : ByteArray := prog_3_method_1_code
def yX1_init : MethodName := ⟨RX1, "<init>", "()V"⟩
abbrev cX1_hear : ByteArray := prog_3_method_2_code
def yX1_hear : MethodName := ⟨RX1, "hear", "(III)V"⟩
def RX2 : String := "ParrotLog"
def TX2 : u_T := fun k => match k with
  | 0 => ("ParrotLog", "log", "LParrotLog$Log;", true)
  | 1 => ("ParrotLog", "saidInStorm", "[I", true)
  | 2 => ("ParrotLog", "fleet", "[LParrotLog$Ship;", true)
  | 3 => ("ParrotLog", "replayKeys", "[I", true)
  | 4 => ("ParrotLog", "replayValues", "[I", true)
  | 5 => ("ParrotLog", "hour", "I", false)
  | 6 => ("ParrotLog", "stormCount", "I", false)
  | 7 => ("ParrotLog", "stormOn", "Z", false)
  | _ => ("ParrotLog", "shipCount", "I", false)
def tyX2 : Nat → FieldType := fun k => match k with
  | 0 => .object "ParrotLog$Log"
  | 1 => .array .int
  | 2 => .array (.object "ParrotLog$Ship")
  | 3 => .array .int
  | 4 => .array .int
  | 5 => .int
  | 6 => .int
  | 7 => .boolean
  | _ => .int
abbrev wsX20 : List Cond := u_ws RX2 TX2 9
theorem nmX2 : ∀ a, a < 9 → ∀ b, b < 9 → a ≠ b → (TX2 a).2.1 ≠ (TX2 b).2.1 := by decide +kernel
theorem tyX2_ok : ∀ k, k < 9 → parseFieldDescriptor (TX2 k).2.2.1 = some (tyX2 k) := by decide +kernel
abbrev cX2_init : ByteArray := prog_1_method_1_code
def yX2_init : MethodName := ⟨RX2, "<init>", "()V"⟩
abbrev cX2_say : ByteArray := prog_1_method_2_code
def yX2_say : MethodName := ⟨RX2, "say", "(II)I"⟩
abbrev cX2_startStorm : ByteArray := prog_1_method_3_code
def yX2_startStorm : MethodName := ⟨RX2, "startStorm", "()I"⟩
abbrev cX2_endStorm : ByteArray := prog_1_method_4_code
def yX2_endStorm : MethodName := ⟨RX2, "endStorm", "()I"⟩
abbrev cX2_replay : ByteArray := prog_1_method_5_code
def yX2_replay : MethodName := ⟨RX2, "replay", "(I)I"⟩
abbrev cX2_compact : ByteArray := prog_1_method_6_code
def yX2_compact : MethodName := ⟨RX2, "compact", "()I"⟩
abbrev cX2_trimTo : ByteArray := prog_1_method_7_code
def yX2_trimTo : MethodName := ⟨RX2, "trimTo", "(I)I"⟩
abbrev cX2_addShip : ByteArray := prog_1_method_8_code
def yX2_addShip : MethodName := ⟨RX2, "addShip", "(II)I"⟩
abbrev cX2_seek : ByteArray := prog_1_method_9_code
def yX2_seek : MethodName := ⟨RX2, "seek", "(II)I"⟩
abbrev cX2_passHours : ByteArray := prog_1_method_10_code
def yX2_passHours : MethodName := ⟨RX2, "passHours", "(I)I"⟩
abbrev cX2_hours : ByteArray := prog_1_method_11_code
def yX2_hours : MethodName := ⟨RX2, "hours", "()I"⟩
abbrev cX2_phrases : ByteArray := prog_1_method_12_code
def yX2_phrases : MethodName := ⟨RX2, "phrases", "()I"⟩
abbrev cX2_nextOffset : ByteArray := prog_1_method_13_code
def yX2_nextOffset : MethodName := ⟨RX2, "nextOffset", "()I"⟩
abbrev cX2_firstOffset : ByteArray := prog_1_method_14_code
def yX2_firstOffset : MethodName := ⟨RX2, "firstOffset", "()I"⟩
abbrev cX2_dropped : ByteArray := prog_1_method_15_code
def yX2_dropped : MethodName := ⟨RX2, "dropped", "()I"⟩
abbrev cX2_isKept : ByteArray := prog_1_method_16_code
def yX2_isKept : MethodName := ⟨RX2, "isKept", "(I)Z"⟩
abbrev cX2_keyAt : ByteArray := prog_1_method_17_code
def yX2_keyAt : MethodName := ⟨RX2, "keyAt", "(I)I"⟩
abbrev cX2_valueAt : ByteArray := prog_1_method_18_code
def yX2_valueAt : MethodName := ⟨RX2, "valueAt", "(I)I"⟩
abbrev cX2_stormAt : ByteArray := prog_1_method_19_code
def yX2_stormAt : MethodName := ⟨RX2, "stormAt", "(I)I"⟩
abbrev cX2_latestOf : ByteArray := prog_1_method_20_code
def yX2_latestOf : MethodName := ⟨RX2, "latestOf", "(I)I"⟩
abbrev cX2_valueOf : ByteArray := prog_1_method_21_code
def yX2_valueOf : MethodName := ⟨RX2, "valueOf", "(I)I"⟩
abbrev cX2_countOf : ByteArray := prog_1_method_22_code
def yX2_countOf : MethodName := ⟨RX2, "countOf", "(I)I"⟩
abbrev cX2_storms : ByteArray := prog_1_method_23_code
def yX2_storms : MethodName := ⟨RX2, "storms", "()I"⟩
abbrev cX2_isStormy : ByteArray := prog_1_method_24_code
def yX2_isStormy : MethodName := ⟨RX2, "isStormy", "()Z"⟩
abbrev cX2_saidIn : ByteArray := prog_1_method_25_code
def yX2_saidIn : MethodName := ⟨RX2, "saidIn", "(I)I"⟩
abbrev cX2_keptOf : ByteArray := prog_1_method_26_code
def yX2_keptOf : MethodName := ⟨RX2, "keptOf", "(I)I"⟩
abbrev cX2_ships : ByteArray := prog_1_method_27_code
def yX2_ships : MethodName := ⟨RX2, "ships", "()I"⟩
abbrev cX2_offsetOf : ByteArray := prog_1_method_28_code
def yX2_offsetOf : MethodName := ⟨RX2, "offsetOf", "(I)I"⟩
abbrev cX2_lagOf : ByteArray := prog_1_method_29_code
def yX2_lagOf : MethodName := ⟨RX2, "lagOf", "(I)I"⟩
abbrev cX2_heardBy : ByteArray := prog_1_method_30_code
def yX2_heardBy : MethodName := ⟨RX2, "heardBy", "(I)I"⟩
abbrev cX2_missedBy : ByteArray := prog_1_method_31_code
def yX2_missedBy : MethodName := ⟨RX2, "missedBy", "(I)I"⟩
abbrev cX2_knownBy : ByteArray := prog_1_method_32_code
def yX2_knownBy : MethodName := ⟨RX2, "knownBy", "(II)I"⟩
abbrev cX2_errorsOf : ByteArray := prog_1_method_33_code
def yX2_errorsOf : MethodName := ⟨RX2, "errorsOf", "(I)I"⟩
abbrev cX2_farthestBehind : ByteArray := prog_1_method_34_code
def yX2_farthestBehind : MethodName := ⟨RX2, "farthestBehind", "()I"⟩
abbrev cX2_wouldCompact : ByteArray := prog_1_method_38_code
def yX2_wouldCompact : MethodName := ⟨RX2, "wouldCompact", "()I"⟩
abbrev cX2_wouldMiss : ByteArray := prog_1_method_39_code
def yX2_wouldMiss : MethodName := ⟨RX2, "wouldMiss", "(I)I"⟩
abbrev cX2_meanLag : ByteArray := prog_1_method_40_code
def yX2_meanLag : MethodName := ⟨RX2, "meanLag", "()D"⟩
abbrev cX2_speak : ByteArray := prog_1_method_46_code
def yX2_speak : MethodName := ⟨RX2, "speak", "(II)I"⟩
abbrev cX2_markCompacted : ByteArray := prog_1_method_47_code
def yX2_markCompacted : MethodName := ⟨RX2, "markCompacted", "()V"⟩
abbrev cX2_leastShipOffset : ByteArray := prog_1_method_48_code
def yX2_leastShipOffset : MethodName := ⟨RX2, "leastShipOffset", "()I"⟩
abbrev cX2_dropMarked : ByteArray := prog_1_method_49_code
def yX2_dropMarked : MethodName := ⟨RX2, "dropMarked", "()I"⟩
abbrev cX2_lag : ByteArray := prog_1_method_50_code
def yX2_lag : MethodName := ⟨RX2, "lag", "(LParrotLog$Ship;)I"⟩
abbrev cX2_mostHeard : ByteArray := prog_1_method_51_code
def yX2_mostHeard : MethodName := ⟨RX2, "mostHeard", "(II)I"⟩
abbrev cX2_hearNext : ByteArray := prog_1_method_52_code
def yX2_hearNext : MethodName := ⟨RX2, "hearNext", "(LParrotLog$Ship;I)I"⟩
abbrev cX2_errorsAfter : ByteArray := prog_1_method_54_code
def yX2_errorsAfter : MethodName := ⟨RX2, "errorsAfter", "(LParrotLog$Ship;I)I"⟩
abbrev cX2_isKey : ByteArray := prog_1_method_55_code
def yX2_isKey : MethodName := ⟨RX2, "isKey", "(I)Z"⟩
abbrev cX2_checkKey : ByteArray := prog_1_method_56_code
def yX2_checkKey : MethodName := ⟨RX2, "checkKey", "(I)V"⟩
abbrev cX2_checkHours : ByteArray := prog_1_method_57_code
def yX2_checkHours : MethodName := ⟨RX2, "checkHours", "(I)V"⟩
abbrev cX2_checkReachable : ByteArray := prog_1_method_58_code
def yX2_checkReachable : MethodName := ⟨RX2, "checkReachable", "(I)V"⟩
abbrev cX2_checkStorm : ByteArray := prog_1_method_59_code
def yX2_checkStorm : MethodName := ⟨RX2, "checkStorm", "(I)V"⟩
abbrev cX2_shipNumbered : ByteArray := prog_1_method_60_code
def yX2_shipNumbered : MethodName := ⟨RX2, "shipNumbered", "(I)LParrotLog$Ship;"⟩
abbrev cX2_keptPosition : ByteArray := prog_1_method_61_code
def yX2_keptPosition : MethodName := ⟨RX2, "keptPosition", "(I)I"⟩
def RX3 : String := "ParrotLogLaw$Sim"
def TX3 : u_T := fun k => match k with
  | 0 => ("ParrotLogLaw$Sim", "hours", "I", false)
  | 1 => ("ParrotLogLaw$Sim", "next", "I", false)
  | 2 => ("ParrotLogLaw$Sim", "dropped", "I", false)
  | 3 => ("ParrotLogLaw$Sim", "isOn", "Z", false)
  | 4 => ("ParrotLogLaw$Sim", "log", "[[I", false)
  | 5 => ("ParrotLogLaw$Sim", "said", "[I", false)
  | _ => ("ParrotLogLaw$Sim", "ships", "[[I", false)
def tyX3 : Nat → FieldType := fun k => match k with
  | 0 => .int
  | 1 => .int
  | 2 => .int
  | 3 => .boolean
  | 4 => .array (.array .int)
  | 5 => .array .int
  | _ => .array (.array .int)
abbrev wsX30 : List Cond := u_ws RX3 TX3 7
theorem nmX3 : ∀ a, a < 7 → ∀ b, b < 7 → a ≠ b → (TX3 a).2.1 ≠ (TX3 b).2.1 := by decide +kernel
theorem tyX3_ok : ∀ k, k < 7 → parseFieldDescriptor (TX3 k).2.2.1 = some (tyX3 k) := by decide +kernel
abbrev cX3_init : ByteArray := prog_5_method_1_code
def yX3_init : MethodName := ⟨RX3, "<init>", "()V"⟩
abbrev cX3_with : ByteArray := prog_5_method_2_code
def yX3_with : MethodName := ⟨RX3, "with", "([[I[I)[[I"⟩
abbrev cX3_dropAt : ByteArray := prog_5_method_3_code
def yX3_dropAt : MethodName := ⟨RX3, "dropAt", "(I)V"⟩
abbrev cX3_say : ByteArray := prog_5_method_4_code
def yX3_say : MethodName := ⟨RX3, "say", "(II)I"⟩
abbrev cX3_compact : ByteArray := prog_5_method_5_code
def yX3_compact : MethodName := ⟨RX3, "compact", "()I"⟩
abbrev cX3_pass : ByteArray := prog_5_method_6_code
def yX3_pass : MethodName := ⟨RX3, "pass", "(I)I"⟩
abbrev cX3_lag : ByteArray := prog_5_method_7_code
def yX3_lag : MethodName := ⟨RX3, "lag", "([I)I"⟩
abbrev cX3_value : ByteArray := prog_5_method_8_code
def yX3_value : MethodName := ⟨RX3, "value", "(I)I"⟩
abbrev cX3_errors : ByteArray := prog_5_method_9_code
def yX3_errors : MethodName := ⟨RX3, "errors", "([I)I"⟩
abbrev cX3_isSame : ByteArray := prog_5_method_11_code
def yX3_isSame : MethodName := ⟨RX3, "isSame", "(LParrotLog;)Z"⟩
def RX4 : String := "ParrotLogModel"
def TX4 : u_T := fun k => match k with
  | _ => ("", "", "", false)
def tyX4 : Nat → FieldType := fun k => match k with
  | _ => .int
abbrev wsX40 : List Cond := u_ws RX4 TX4 0
theorem nmX4 : ∀ a, a < 0 → ∀ b, b < 0 → a ≠ b → (TX4 a).2.1 ≠ (TX4 b).2.1 := by decide +kernel
theorem tyX4_ok : ∀ k, k < 0 → parseFieldDescriptor (TX4 k).2.2.1 = some (tyX4 k) := by decide +kernel
def RJ9 : String := "java/lang/Math"
def TJ9 : u_T := fun k => match k with
  | _ => ("", "", "", false)
def tyJ9 : Nat → FieldType := fun k => match k with
  | _ => .int
abbrev wsJ90 : List Cond := u_ws RJ9 TJ9 0
theorem nmJ9 : ∀ a, a < 0 → ∀ b, b < 0 → a ≠ b → (TJ9 a).2.1 ≠ (TJ9 b).2.1 := by decide +kernel
theorem tyJ9_ok : ∀ k, k < 0 → parseFieldDescriptor (TJ9 k).2.2.1 = some (tyJ9 k) := by decide +kernel
abbrev cJ9_min_7cf53 : ByteArray := prog_11_method_69_code
def yJ9_min_7cf53 : MethodName := ⟨RJ9, "min", "(II)I"⟩
def RJ0 : String := "java/lang/String"
def TJ0 : u_T := fun k => match k with
  | _ => ("", "", "", false)
def tyJ0 : Nat → FieldType := fun k => match k with
  | _ => .int
abbrev wsJ00 : List Cond := u_ws RJ0 TJ0 0
theorem nmJ0 : ∀ a, a < 0 → ∀ b, b < 0 → a ≠ b → (TJ0 a).2.1 ≠ (TJ0 b).2.1 := by decide +kernel
theorem tyJ0_ok : ∀ k, k < 0 → parseFieldDescriptor (TJ0 k).2.2.1 = some (tyJ0 k) := by decide +kernel
def RL : String := "ParrotLogLaw"
abbrev cL_below : ByteArray := method_2_code
def yL_below : MethodName := ⟨RL, "below", "(II)I"⟩
abbrev cL_cell : ByteArray := method_3_code
def yL_cell : MethodName := ⟨RL, "cell", "([II)I"⟩
abbrev cL_act : ByteArray := method_4_code
def yL_act : MethodName := ⟨RL, "act", "(LParrotLog;LParrotLogLaw$Sim;I)Z"⟩
abbrev cL_build : ByteArray := method_5_code
def yL_build : MethodName := ⟨RL, "build", "(LParrotLog;[I)LParrotLogLaw$Sim;"⟩
abbrev cL_law : ByteArray := code
def yL_law : MethodName := ⟨RL, "law", "([I)Z"⟩
def wsX0_init : List Cond := .code yX0_init cX0_init 1 none :: ([.methodLink RX0 3 objectInit, .instanceMethod objectInit, .code objectInit ⟨#[0xb1]⟩ 1 none, .arrayClass .int, .fieldLink RX0 9 "ParrotLog$Log" "offsets" "[I", .fieldLink RX0 15 "ParrotLog$Log" "keys" "[I", .fieldLink RX0 18 "ParrotLog$Log" "values" "[I", .fieldLink RX0 21 "ParrotLog$Log" "stormNumbers" "[I", .arrayClass .boolean, .fieldLink RX0 24 "ParrotLog$Log" "marked" "[Z"] ++ wsX00)
def wsX0_append : List Cond := .code yX0_append cX0_append 4 (some .int) :: ([.fieldLink RX0 9 "ParrotLog$Log" "offsets" "[I", .fieldLink RX0 28 "ParrotLog$Log" "size" "I", .fieldLink RX0 32 "ParrotLog$Log" "next" "I", .fieldLink RX0 15 "ParrotLog$Log" "keys" "[I", .fieldLink RX0 18 "ParrotLog$Log" "values" "[I", .fieldLink RX0 21 "ParrotLog$Log" "stormNumbers" "[I"] ++ wsX00)
def wsX0_markFirst : List Cond := .code yX0_markFirst cX0_markFirst 2 none :: ([.fieldLink RX0 28 "ParrotLog$Log" "size" "I", .fieldLink RX0 24 "ParrotLog$Log" "marked" "[Z"] ++ wsX00)
def wsX0_markAhead : List Cond := .code yX0_markAhead cX0_markAhead 3 none :: ([.fieldLink RX0 28 "ParrotLog$Log" "size" "I", .fieldLink RX0 24 "ParrotLog$Log" "marked" "[Z", .fieldLink RX0 9 "ParrotLog$Log" "offsets" "[I"] ++ wsX00)
def wsX0_latestPosition : List Cond := .code yX0_latestPosition cX0_latestPosition 5 (some .int) :: ([.fieldLink RX0 15 "ParrotLog$Log" "keys" "[I"] ++ wsX00)
def wsX0_markCompacted : List Cond := .code yX0_markCompacted cX0_markCompacted 5 none :: ([.fieldLink RX0 28 "ParrotLog$Log" "size" "I", .fieldLink RX0 15 "ParrotLog$Log" "keys" "[I", .fieldLink RX0 18 "ParrotLog$Log" "values" "[I", .fieldLink RX0 9 "ParrotLog$Log" "offsets" "[I", .fieldLink RX0 24 "ParrotLog$Log" "marked" "[Z", .methodLink RX0 35 yX0_latestPosition, .instanceMethod yX0_latestPosition, .selects RX0 yX0_latestPosition yX0_latestPosition, .initialized RX0, .code yX0_latestPosition cX0_latestPosition 5 (some .int)] ++ wsX00)
def wsX0_positionFrom : List Cond := .code yX0_positionFrom cX0_positionFrom 3 (some .int) :: ([.fieldLink RX0 28 "ParrotLog$Log" "size" "I", .fieldLink RX0 9 "ParrotLog$Log" "offsets" "[I"] ++ wsX00)
def wsX0_countMarkedFrom : List Cond := .code yX0_countMarkedFrom cX0_countMarkedFrom 4 (some .int) :: ([.fieldLink RX0 28 "ParrotLog$Log" "size" "I", .fieldLink RX0 24 "ParrotLog$Log" "marked" "[Z", .methodLink RX0 43 yX0_positionFrom, .instanceMethod yX0_positionFrom, .selects RX0 yX0_positionFrom yX0_positionFrom, .initialized RX0, .code yX0_positionFrom cX0_positionFrom 3 (some .int), .fieldLink RX0 9 "ParrotLog$Log" "offsets" "[I"] ++ wsX00)
def wsX0_countMarked : List Cond := .code yX0_countMarked cX0_countMarked 1 (some .int) :: ([.methodLink RX0 39 yX0_countMarkedFrom, .instanceMethod yX0_countMarkedFrom, .selects RX0 yX0_countMarkedFrom yX0_countMarkedFrom, .initialized RX0, .code yX0_countMarkedFrom cX0_countMarkedFrom 4 (some .int), .fieldLink RX0 28 "ParrotLog$Log" "size" "I", .fieldLink RX0 24 "ParrotLog$Log" "marked" "[Z", .methodLink RX0 43 yX0_positionFrom, .instanceMethod yX0_positionFrom, .selects RX0 yX0_positionFrom yX0_positionFrom, .code yX0_positionFrom cX0_positionFrom 3 (some .int), .fieldLink RX0 9 "ParrotLog$Log" "offsets" "[I"] ++ wsX00)
def wsX0_removeMarked : List Cond := .code yX0_removeMarked cX0_removeMarked 3 (some .int) :: ([.fieldLink RX0 28 "ParrotLog$Log" "size" "I", .fieldLink RX0 24 "ParrotLog$Log" "marked" "[Z", .fieldLink RX0 9 "ParrotLog$Log" "offsets" "[I", .fieldLink RX0 15 "ParrotLog$Log" "keys" "[I", .fieldLink RX0 18 "ParrotLog$Log" "values" "[I", .fieldLink RX0 21 "ParrotLog$Log" "stormNumbers" "[I", .fieldLink RX0 46 "ParrotLog$Log" "droppedInAll" "I"] ++ wsX00)
def wsX0_positionOf : List Cond := .code yX0_positionOf cX0_positionOf 3 (some .int) :: ([.fieldLink RX0 28 "ParrotLog$Log" "size" "I", .fieldLink RX0 9 "ParrotLog$Log" "offsets" "[I", .methodLink RX0 43 yX0_positionFrom, .instanceMethod yX0_positionFrom, .selects RX0 yX0_positionFrom yX0_positionFrom, .initialized RX0, .code yX0_positionFrom cX0_positionFrom 3 (some .int)] ++ wsX00)
def wsX0_latestOffset : List Cond := .code yX0_latestOffset cX0_latestOffset 3 (some .int) :: ([.fieldLink RX0 28 "ParrotLog$Log" "size" "I", .fieldLink RX0 9 "ParrotLog$Log" "offsets" "[I", .methodLink RX0 35 yX0_latestPosition, .instanceMethod yX0_latestPosition, .selects RX0 yX0_latestPosition yX0_latestPosition, .initialized RX0, .code yX0_latestPosition cX0_latestPosition 5 (some .int), .fieldLink RX0 15 "ParrotLog$Log" "keys" "[I"] ++ wsX00)
def wsX0_latestValue : List Cond := .code yX0_latestValue cX0_latestValue 3 (some .int) :: ([.fieldLink RX0 28 "ParrotLog$Log" "size" "I", .fieldLink RX0 18 "ParrotLog$Log" "values" "[I", .methodLink RX0 35 yX0_latestPosition, .instanceMethod yX0_latestPosition, .selects RX0 yX0_latestPosition yX0_latestPosition, .initialized RX0, .code yX0_latestPosition cX0_latestPosition 5 (some .int), .fieldLink RX0 15 "ParrotLog$Log" "keys" "[I"] ++ wsX00)
def wsX0_countEqual : List Cond := .code yX0_countEqual cX0_countEqual 5 (some .int) :: ([.fieldLink RX0 28 "ParrotLog$Log" "size" "I"] ++ wsX00)
def wsX0_countKey : List Cond := .code yX0_countKey cX0_countKey 2 (some .int) :: ([.fieldLink RX0 15 "ParrotLog$Log" "keys" "[I", .methodLink RX0 49 yX0_countEqual, .instanceMethod yX0_countEqual, .selects RX0 yX0_countEqual yX0_countEqual, .initialized RX0, .code yX0_countEqual cX0_countEqual 5 (some .int), .fieldLink RX0 28 "ParrotLog$Log" "size" "I"] ++ wsX00)
def wsX0_countStorm : List Cond := .code yX0_countStorm cX0_countStorm 2 (some .int) :: ([.fieldLink RX0 21 "ParrotLog$Log" "stormNumbers" "[I", .methodLink RX0 49 yX0_countEqual, .instanceMethod yX0_countEqual, .selects RX0 yX0_countEqual yX0_countEqual, .initialized RX0, .code yX0_countEqual cX0_countEqual 5 (some .int), .fieldLink RX0 28 "ParrotLog$Log" "size" "I"] ++ wsX00)
def wsX0_copyStorm : List Cond := .code yX0_copyStorm cX0_copyStorm 6 (some .int) :: ([.fieldLink RX0 28 "ParrotLog$Log" "size" "I", .fieldLink RX0 21 "ParrotLog$Log" "stormNumbers" "[I", .fieldLink RX0 15 "ParrotLog$Log" "keys" "[I", .fieldLink RX0 18 "ParrotLog$Log" "values" "[I"] ++ wsX00)
def wsX1_init : List Cond := .code yX1_init cX1_init 1 none :: ([.methodLink RX1 3 objectInit, .instanceMethod objectInit, .code objectInit ⟨#[0xb1]⟩ 1 none, .arrayClass .int, .fieldLink RX1 9 "ParrotLog$Ship" "known" "[I"] ++ wsX10)
def wsX1_hear : List Cond := .code yX1_hear cX1_hear 4 none :: ([.fieldLink RX1 9 "ParrotLog$Ship" "known" "[I", .fieldLink RX1 15 "ParrotLog$Ship" "offset" "I", .fieldLink RX1 19 "ParrotLog$Ship" "heard" "I"] ++ wsX10)
def wsX2_init_r1 : List Cond := [Cond.methodLink RX2 1 objectInit, Cond.instanceMethod objectInit, Cond.code objectInit ⟨#[0xb1]⟩ 1 none, Cond.classLink RX2 7 RX0, Cond.instantiable RX0 8, Cond.initialized RX0, Cond.fieldLink RX2 10 "ParrotLog" "log" "LParrotLog$Log;", Cond.arrayClass .int, Cond.fieldLink RX2 16 "ParrotLog" "saidInStorm" "[I", Cond.classLink RX2 20 RX1, Cond.fieldLink RX2 22 "ParrotLog" "fleet" "[LParrotLog$Ship;", Cond.instantiable RX1 5, Cond.initialized RX1, Cond.fieldLink RX2 27 "ParrotLog" "replayKeys" "[I", Cond.fieldLink RX2 30 "ParrotLog" "replayValues" "[I", Cond.instanceMethod yX0_init, Cond.code yX0_init cX0_init 1 none, Cond.methodLink RX0 3 objectInit, Cond.fieldLink RX0 9 "ParrotLog$Log" "offsets" "[I", Cond.fieldLink RX0 15 "ParrotLog$Log" "keys" "[I", Cond.fieldLink RX0 18 "ParrotLog$Log" "values" "[I", Cond.fieldLink RX0 21 "ParrotLog$Log" "stormNumbers" "[I", Cond.arrayClass .boolean, Cond.fieldLink RX0 24 "ParrotLog$Log" "marked" "[Z"]
def wsX2_init_r2 : List Cond := [Cond.instanceMethod yX1_init, Cond.code yX1_init cX1_init 1 none, Cond.methodLink RX1 3 objectInit, Cond.fieldLink RX1 9 "ParrotLog$Ship" "known" "[I"]
def wsX2_init : List Cond := .code yX2_init cX2_init 2 none :: ((wsX2_init_r1 ++ wsX2_init_r2) ++ wsX00 ++ wsX20 ++ wsX10)
def wsX2_isKey : List Cond := .code yX2_isKey cX2_isKey 1 (some .boolean) :: ([])
def wsX2_dropMarked : List Cond := .code yX2_dropMarked cX2_dropMarked 2 (some .int) :: ([.fieldLink RX2 90 "ParrotLog" "shipCount" "I", .fieldLink RX2 22 "ParrotLog" "fleet" "[LParrotLog$Ship;", .fieldLink RX2 10 "ParrotLog" "log" "LParrotLog$Log;", .instanceMethod yX0_countMarkedFrom, .initialized RX0, .selects RX0 yX0_countMarkedFrom yX0_countMarkedFrom, .code yX0_countMarkedFrom cX0_countMarkedFrom 4 (some .int), .fieldLink RX0 28 "ParrotLog$Log" "size" "I", .fieldLink RX0 24 "ParrotLog$Log" "marked" "[Z", .methodLink RX0 43 yX0_positionFrom, .instanceMethod yX0_positionFrom, .selects RX0 yX0_positionFrom yX0_positionFrom, .code yX0_positionFrom cX0_positionFrom 3 (some .int), .fieldLink RX0 9 "ParrotLog$Log" "offsets" "[I", .instanceMethod yX0_removeMarked, .selects RX0 yX0_removeMarked yX0_removeMarked, .code yX0_removeMarked cX0_removeMarked 3 (some .int), .fieldLink RX0 15 "ParrotLog$Log" "keys" "[I", .fieldLink RX0 18 "ParrotLog$Log" "values" "[I", .fieldLink RX0 21 "ParrotLog$Log" "stormNumbers" "[I", .fieldLink RX0 46 "ParrotLog$Log" "droppedInAll" "I"] ++ wsX20 ++ wsX10 ++ wsX00)
def wsX2_speak_r1 : List Cond := [Cond.fieldLink RX2 10 "ParrotLog" "log" "LParrotLog$Log;", Cond.fieldLink RX2 50 "ParrotLog" "stormOn" "Z", Cond.fieldLink RX2 59 "ParrotLog" "stormCount" "I", Cond.fieldLink RX2 16 "ParrotLog" "saidInStorm" "[I", Cond.instanceMethod yX0_markFirst, Cond.initialized RX0, Cond.selects RX0 yX0_markFirst yX0_markFirst, Cond.code yX0_markFirst cX0_markFirst 2 none, Cond.fieldLink RX0 28 "ParrotLog$Log" "size" "I", Cond.fieldLink RX0 24 "ParrotLog$Log" "marked" "[Z", Cond.methodLink RX2 78 yX2_dropMarked, Cond.instanceMethod yX2_dropMarked, Cond.selects RX2 yX2_dropMarked yX2_dropMarked, Cond.initialized RX2, Cond.code yX2_dropMarked cX2_dropMarked 2 (some .int), Cond.fieldLink RX2 90 "ParrotLog" "shipCount" "I", Cond.fieldLink RX2 22 "ParrotLog" "fleet" "[LParrotLog$Ship;", Cond.instanceMethod yX0_countMarkedFrom, Cond.selects RX0 yX0_countMarkedFrom yX0_countMarkedFrom, Cond.code yX0_countMarkedFrom cX0_countMarkedFrom 4 (some .int), Cond.methodLink RX0 43 yX0_positionFrom, Cond.instanceMethod yX0_positionFrom, Cond.selects RX0 yX0_positionFrom yX0_positionFrom, Cond.code yX0_positionFrom cX0_positionFrom 3 (some .int)]
def wsX2_speak_r2 : List Cond := [Cond.fieldLink RX0 9 "ParrotLog$Log" "offsets" "[I", Cond.instanceMethod yX0_removeMarked, Cond.selects RX0 yX0_removeMarked yX0_removeMarked, Cond.code yX0_removeMarked cX0_removeMarked 3 (some .int), Cond.fieldLink RX0 15 "ParrotLog$Log" "keys" "[I", Cond.fieldLink RX0 18 "ParrotLog$Log" "values" "[I", Cond.fieldLink RX0 21 "ParrotLog$Log" "stormNumbers" "[I", Cond.fieldLink RX0 46 "ParrotLog$Log" "droppedInAll" "I", Cond.instanceMethod yX0_append, Cond.selects RX0 yX0_append yX0_append, Cond.code yX0_append cX0_append 4 (some .int), Cond.fieldLink RX0 32 "ParrotLog$Log" "next" "I"]
def wsX2_speak : List Cond := .code yX2_speak cX2_speak 4 (some .int) :: ((wsX2_speak_r1 ++ wsX2_speak_r2) ++ wsX20 ++ wsX00 ++ wsX10)
def wsX2_say_r1 : List Cond := [Cond.classLink RX2 37 "java/lang/IllegalArgumentException", Cond.initialized "java/lang/IllegalArgumentException", Cond.methodLink RX2 33 yX2_isKey, Cond.static yX2_isKey, Cond.initialized RX2, Cond.code yX2_isKey cX2_isKey 1 (some .boolean), Cond.methodLink RX2 46 yX2_speak, Cond.instanceMethod yX2_speak, Cond.selects RX2 yX2_speak yX2_speak, Cond.code yX2_speak cX2_speak 4 (some .int), Cond.fieldLink RX2 10 "ParrotLog" "log" "LParrotLog$Log;", Cond.fieldLink RX2 50 "ParrotLog" "stormOn" "Z", Cond.fieldLink RX2 59 "ParrotLog" "stormCount" "I", Cond.fieldLink RX2 16 "ParrotLog" "saidInStorm" "[I", Cond.instanceMethod yX0_markFirst, Cond.initialized RX0, Cond.selects RX0 yX0_markFirst yX0_markFirst, Cond.code yX0_markFirst cX0_markFirst 2 none, Cond.fieldLink RX0 28 "ParrotLog$Log" "size" "I", Cond.fieldLink RX0 24 "ParrotLog$Log" "marked" "[Z", Cond.methodLink RX2 78 yX2_dropMarked, Cond.instanceMethod yX2_dropMarked, Cond.selects RX2 yX2_dropMarked yX2_dropMarked, Cond.code yX2_dropMarked cX2_dropMarked 2 (some .int)]
def wsX2_say_r2 : List Cond := [Cond.fieldLink RX2 90 "ParrotLog" "shipCount" "I", Cond.fieldLink RX2 22 "ParrotLog" "fleet" "[LParrotLog$Ship;", Cond.instanceMethod yX0_countMarkedFrom, Cond.selects RX0 yX0_countMarkedFrom yX0_countMarkedFrom, Cond.code yX0_countMarkedFrom cX0_countMarkedFrom 4 (some .int), Cond.methodLink RX0 43 yX0_positionFrom, Cond.instanceMethod yX0_positionFrom, Cond.selects RX0 yX0_positionFrom yX0_positionFrom, Cond.code yX0_positionFrom cX0_positionFrom 3 (some .int), Cond.fieldLink RX0 9 "ParrotLog$Log" "offsets" "[I", Cond.instanceMethod yX0_removeMarked, Cond.selects RX0 yX0_removeMarked yX0_removeMarked, Cond.code yX0_removeMarked cX0_removeMarked 3 (some .int), Cond.fieldLink RX0 15 "ParrotLog$Log" "keys" "[I", Cond.fieldLink RX0 18 "ParrotLog$Log" "values" "[I", Cond.fieldLink RX0 21 "ParrotLog$Log" "stormNumbers" "[I", Cond.fieldLink RX0 46 "ParrotLog$Log" "droppedInAll" "I", Cond.instanceMethod yX0_append, Cond.selects RX0 yX0_append yX0_append, Cond.code yX0_append cX0_append 4 (some .int), Cond.fieldLink RX0 32 "ParrotLog$Log" "next" "I"]
def wsX2_say : List Cond := .code yX2_say cX2_say 3 (some .int) :: ((wsX2_say_r1 ++ wsX2_say_r2) ++ wsX20 ++ wsX00 ++ wsX10 ++ (vx_atS RX2 41 "java/lang/IllegalArgumentException" ["java/lang/RuntimeException", "java/lang/Exception"]).filter goodWord)
def wsX2_startStorm : List Cond := .code yX2_startStorm cX2_startStorm 1 (some .int) :: ([.classLink RX2 54 "java/lang/IllegalStateException", .initialized "java/lang/IllegalStateException", .fieldLink RX2 50 "ParrotLog" "stormOn" "Z", .fieldLink RX2 59 "ParrotLog" "stormCount" "I"] ++ wsX20 ++ (vx_atS RX2 58 "java/lang/IllegalStateException" ["java/lang/RuntimeException", "java/lang/Exception"]).filter goodWord)
def wsX2_endStorm : List Cond := .code yX2_endStorm cX2_endStorm 1 (some .int) :: ([.classLink RX2 54 "java/lang/IllegalStateException", .initialized "java/lang/IllegalStateException", .fieldLink RX2 50 "ParrotLog" "stormOn" "Z", .fieldLink RX2 16 "ParrotLog" "saidInStorm" "[I", .fieldLink RX2 59 "ParrotLog" "stormCount" "I"] ++ wsX20 ++ (vx_atS RX2 58 "java/lang/IllegalStateException" ["java/lang/RuntimeException", "java/lang/Exception"]).filter goodWord)
def wsX2_checkStorm : List Cond := .code yX2_checkStorm cX2_checkStorm 2 none :: ([.classLink RX2 243 "java/lang/IndexOutOfBoundsException", .initialized "java/lang/IndexOutOfBoundsException", .fieldLink RX2 59 "ParrotLog" "stormCount" "I"] ++ wsX20 ++ (vx_atS RX2 245 "java/lang/IndexOutOfBoundsException" ["java/lang/RuntimeException", "java/lang/Exception"]).filter goodWord)
def wsX2_replay_r1 : List Cond := [Cond.classLink RX2 54 "java/lang/IllegalStateException", Cond.initialized "java/lang/IllegalStateException", Cond.fieldLink RX2 50 "ParrotLog" "stormOn" "Z", Cond.fieldLink RX2 10 "ParrotLog" "log" "LParrotLog$Log;", Cond.fieldLink RX2 27 "ParrotLog" "replayKeys" "[I", Cond.fieldLink RX2 30 "ParrotLog" "replayValues" "[I", Cond.methodLink RX2 67 yX2_checkStorm, Cond.instanceMethod yX2_checkStorm, Cond.selects RX2 yX2_checkStorm yX2_checkStorm, Cond.initialized RX2, Cond.code yX2_checkStorm cX2_checkStorm 2 none, Cond.classLink RX2 243 "java/lang/IndexOutOfBoundsException", Cond.initialized "java/lang/IndexOutOfBoundsException", Cond.fieldLink RX2 59 "ParrotLog" "stormCount" "I", Cond.instanceMethod yX0_copyStorm, Cond.initialized RX0, Cond.selects RX0 yX0_copyStorm yX0_copyStorm, Cond.code yX0_copyStorm cX0_copyStorm 6 (some .int), Cond.fieldLink RX0 28 "ParrotLog$Log" "size" "I", Cond.fieldLink RX0 21 "ParrotLog$Log" "stormNumbers" "[I", Cond.fieldLink RX0 15 "ParrotLog$Log" "keys" "[I", Cond.fieldLink RX0 18 "ParrotLog$Log" "values" "[I", Cond.methodLink RX2 46 yX2_speak, Cond.instanceMethod yX2_speak]
def wsX2_replay_r2 : List Cond := [Cond.selects RX2 yX2_speak yX2_speak, Cond.code yX2_speak cX2_speak 4 (some .int), Cond.fieldLink RX2 16 "ParrotLog" "saidInStorm" "[I", Cond.instanceMethod yX0_markFirst, Cond.selects RX0 yX0_markFirst yX0_markFirst, Cond.code yX0_markFirst cX0_markFirst 2 none, Cond.fieldLink RX0 24 "ParrotLog$Log" "marked" "[Z", Cond.methodLink RX2 78 yX2_dropMarked, Cond.instanceMethod yX2_dropMarked, Cond.selects RX2 yX2_dropMarked yX2_dropMarked, Cond.code yX2_dropMarked cX2_dropMarked 2 (some .int), Cond.fieldLink RX2 90 "ParrotLog" "shipCount" "I", Cond.fieldLink RX2 22 "ParrotLog" "fleet" "[LParrotLog$Ship;", Cond.instanceMethod yX0_countMarkedFrom, Cond.selects RX0 yX0_countMarkedFrom yX0_countMarkedFrom, Cond.code yX0_countMarkedFrom cX0_countMarkedFrom 4 (some .int), Cond.methodLink RX0 43 yX0_positionFrom, Cond.instanceMethod yX0_positionFrom, Cond.selects RX0 yX0_positionFrom yX0_positionFrom, Cond.code yX0_positionFrom cX0_positionFrom 3 (some .int), Cond.fieldLink RX0 9 "ParrotLog$Log" "offsets" "[I", Cond.instanceMethod yX0_removeMarked, Cond.selects RX0 yX0_removeMarked yX0_removeMarked, Cond.code yX0_removeMarked cX0_removeMarked 3 (some .int)]
def wsX2_replay_r3 : List Cond := [Cond.fieldLink RX0 46 "ParrotLog$Log" "droppedInAll" "I", Cond.instanceMethod yX0_append, Cond.selects RX0 yX0_append yX0_append, Cond.code yX0_append cX0_append 4 (some .int), Cond.fieldLink RX0 32 "ParrotLog$Log" "next" "I"]
def wsX2_replay : List Cond := .code yX2_replay cX2_replay 4 (some .int) :: ((wsX2_replay_r1 ++ (wsX2_replay_r2 ++ wsX2_replay_r3)) ++ wsX20 ++ wsX00 ++ wsX10 ++ (vx_atS RX2 58 "java/lang/IllegalStateException" ["java/lang/RuntimeException", "java/lang/Exception"]).filter goodWord ++ (vx_atS RX2 245 "java/lang/IndexOutOfBoundsException" ["java/lang/RuntimeException", "java/lang/Exception"]).filter goodWord)
def wsX2_leastShipOffset : List Cond := .code yX2_leastShipOffset cX2_leastShipOffset 3 (some .int) :: ([.fieldLink RX2 10 "ParrotLog" "log" "LParrotLog$Log;", .fieldLink RX2 90 "ParrotLog" "shipCount" "I", .fieldLink RX2 22 "ParrotLog" "fleet" "[LParrotLog$Ship;", .methodLink RX2 225 Lib.Math.min.name, .static Lib.Math.min.name, .initialized "java/lang/Math", .code Lib.Math.min.name Lib.Math.min.code 2 (some .int)] ++ wsX20 ++ wsX00 ++ wsX10)
def wsX2_markCompacted_r1 : List Cond := [Cond.fieldLink RX2 10 "ParrotLog" "log" "LParrotLog$Log;", Cond.methodLink RX2 220 yX2_leastShipOffset, Cond.instanceMethod yX2_leastShipOffset, Cond.selects RX2 yX2_leastShipOffset yX2_leastShipOffset, Cond.initialized RX2, Cond.code yX2_leastShipOffset cX2_leastShipOffset 3 (some .int), Cond.fieldLink RX2 90 "ParrotLog" "shipCount" "I", Cond.fieldLink RX2 22 "ParrotLog" "fleet" "[LParrotLog$Ship;", Cond.methodLink RX2 225 Lib.Math.min.name, Cond.static Lib.Math.min.name, Cond.initialized "java/lang/Math", Cond.code Lib.Math.min.name Lib.Math.min.code 2 (some .int), Cond.instanceMethod yX0_markCompacted, Cond.initialized RX0, Cond.selects RX0 yX0_markCompacted yX0_markCompacted, Cond.code yX0_markCompacted cX0_markCompacted 5 none, Cond.fieldLink RX0 28 "ParrotLog$Log" "size" "I", Cond.fieldLink RX0 15 "ParrotLog$Log" "keys" "[I", Cond.fieldLink RX0 18 "ParrotLog$Log" "values" "[I", Cond.fieldLink RX0 9 "ParrotLog$Log" "offsets" "[I", Cond.fieldLink RX0 24 "ParrotLog$Log" "marked" "[Z", Cond.methodLink RX0 35 yX0_latestPosition, Cond.instanceMethod yX0_latestPosition, Cond.selects RX0 yX0_latestPosition yX0_latestPosition]
def wsX2_markCompacted_r2 : List Cond := [Cond.code yX0_latestPosition cX0_latestPosition 5 (some .int)]
def wsX2_markCompacted : List Cond := .code yX2_markCompacted cX2_markCompacted 1 none :: ((wsX2_markCompacted_r1 ++ wsX2_markCompacted_r2) ++ wsX20 ++ wsX00 ++ wsX10)
def wsX2_compact_r1 : List Cond := [Cond.methodLink RX2 75 yX2_markCompacted, Cond.instanceMethod yX2_markCompacted, Cond.selects RX2 yX2_markCompacted yX2_markCompacted, Cond.initialized RX2, Cond.code yX2_markCompacted cX2_markCompacted 1 none, Cond.fieldLink RX2 10 "ParrotLog" "log" "LParrotLog$Log;", Cond.methodLink RX2 220 yX2_leastShipOffset, Cond.instanceMethod yX2_leastShipOffset, Cond.selects RX2 yX2_leastShipOffset yX2_leastShipOffset, Cond.code yX2_leastShipOffset cX2_leastShipOffset 3 (some .int), Cond.fieldLink RX2 90 "ParrotLog" "shipCount" "I", Cond.fieldLink RX2 22 "ParrotLog" "fleet" "[LParrotLog$Ship;", Cond.methodLink RX2 225 Lib.Math.min.name, Cond.static Lib.Math.min.name, Cond.initialized "java/lang/Math", Cond.code Lib.Math.min.name Lib.Math.min.code 2 (some .int), Cond.instanceMethod yX0_markCompacted, Cond.initialized RX0, Cond.selects RX0 yX0_markCompacted yX0_markCompacted, Cond.code yX0_markCompacted cX0_markCompacted 5 none, Cond.fieldLink RX0 28 "ParrotLog$Log" "size" "I", Cond.fieldLink RX0 15 "ParrotLog$Log" "keys" "[I", Cond.fieldLink RX0 18 "ParrotLog$Log" "values" "[I", Cond.fieldLink RX0 9 "ParrotLog$Log" "offsets" "[I"]
def wsX2_compact_r2 : List Cond := [Cond.fieldLink RX0 24 "ParrotLog$Log" "marked" "[Z", Cond.methodLink RX0 35 yX0_latestPosition, Cond.instanceMethod yX0_latestPosition, Cond.selects RX0 yX0_latestPosition yX0_latestPosition, Cond.code yX0_latestPosition cX0_latestPosition 5 (some .int), Cond.methodLink RX2 78 yX2_dropMarked, Cond.instanceMethod yX2_dropMarked, Cond.selects RX2 yX2_dropMarked yX2_dropMarked, Cond.code yX2_dropMarked cX2_dropMarked 2 (some .int), Cond.instanceMethod yX0_countMarkedFrom, Cond.selects RX0 yX0_countMarkedFrom yX0_countMarkedFrom, Cond.code yX0_countMarkedFrom cX0_countMarkedFrom 4 (some .int), Cond.methodLink RX0 43 yX0_positionFrom, Cond.instanceMethod yX0_positionFrom, Cond.selects RX0 yX0_positionFrom yX0_positionFrom, Cond.code yX0_positionFrom cX0_positionFrom 3 (some .int), Cond.instanceMethod yX0_removeMarked, Cond.selects RX0 yX0_removeMarked yX0_removeMarked, Cond.code yX0_removeMarked cX0_removeMarked 3 (some .int), Cond.fieldLink RX0 21 "ParrotLog$Log" "stormNumbers" "[I", Cond.fieldLink RX0 46 "ParrotLog$Log" "droppedInAll" "I"]
def wsX2_compact : List Cond := .code yX2_compact cX2_compact 1 (some .int) :: ((wsX2_compact_r1 ++ wsX2_compact_r2) ++ wsX20 ++ wsX00 ++ wsX10)
def wsX2_checkReachable : List Cond := .code yX2_checkReachable cX2_checkReachable 2 none :: ([.classLink RX2 37 "java/lang/IllegalArgumentException", .initialized "java/lang/IllegalArgumentException", .fieldLink RX2 10 "ParrotLog" "log" "LParrotLog$Log;"] ++ wsX20 ++ wsX00 ++ (vx_atS RX2 41 "java/lang/IllegalArgumentException" ["java/lang/RuntimeException", "java/lang/Exception"]).filter goodWord)
def wsX2_trimTo_r1 : List Cond := [Cond.fieldLink RX2 10 "ParrotLog" "log" "LParrotLog$Log;", Cond.methodLink RX2 82 yX2_checkReachable, Cond.instanceMethod yX2_checkReachable, Cond.selects RX2 yX2_checkReachable yX2_checkReachable, Cond.initialized RX2, Cond.code yX2_checkReachable cX2_checkReachable 2 none, Cond.classLink RX2 37 "java/lang/IllegalArgumentException", Cond.initialized "java/lang/IllegalArgumentException", Cond.instanceMethod yX0_markAhead, Cond.initialized RX0, Cond.selects RX0 yX0_markAhead yX0_markAhead, Cond.code yX0_markAhead cX0_markAhead 3 none, Cond.fieldLink RX0 28 "ParrotLog$Log" "size" "I", Cond.fieldLink RX0 24 "ParrotLog$Log" "marked" "[Z", Cond.fieldLink RX0 9 "ParrotLog$Log" "offsets" "[I", Cond.methodLink RX2 78 yX2_dropMarked, Cond.instanceMethod yX2_dropMarked, Cond.selects RX2 yX2_dropMarked yX2_dropMarked, Cond.code yX2_dropMarked cX2_dropMarked 2 (some .int), Cond.fieldLink RX2 90 "ParrotLog" "shipCount" "I", Cond.fieldLink RX2 22 "ParrotLog" "fleet" "[LParrotLog$Ship;", Cond.instanceMethod yX0_countMarkedFrom, Cond.selects RX0 yX0_countMarkedFrom yX0_countMarkedFrom, Cond.code yX0_countMarkedFrom cX0_countMarkedFrom 4 (some .int)]
def wsX2_trimTo_r2 : List Cond := [Cond.methodLink RX0 43 yX0_positionFrom, Cond.instanceMethod yX0_positionFrom, Cond.selects RX0 yX0_positionFrom yX0_positionFrom, Cond.code yX0_positionFrom cX0_positionFrom 3 (some .int), Cond.instanceMethod yX0_removeMarked, Cond.selects RX0 yX0_removeMarked yX0_removeMarked, Cond.code yX0_removeMarked cX0_removeMarked 3 (some .int), Cond.fieldLink RX0 15 "ParrotLog$Log" "keys" "[I", Cond.fieldLink RX0 18 "ParrotLog$Log" "values" "[I", Cond.fieldLink RX0 21 "ParrotLog$Log" "stormNumbers" "[I", Cond.fieldLink RX0 46 "ParrotLog$Log" "droppedInAll" "I"]
def wsX2_trimTo : List Cond := .code yX2_trimTo cX2_trimTo 2 (some .int) :: ((wsX2_trimTo_r1 ++ wsX2_trimTo_r2) ++ wsX20 ++ wsX00 ++ wsX10 ++ (vx_atS RX2 41 "java/lang/IllegalArgumentException" ["java/lang/RuntimeException", "java/lang/Exception"]).filter goodWord)
def wsX2_addShip : List Cond := .code yX2_addShip cX2_addShip 4 (some .int) :: ([.classLink RX2 37 "java/lang/IllegalArgumentException", .initialized "java/lang/IllegalArgumentException", .classLink RX2 54 "java/lang/IllegalStateException", .initialized "java/lang/IllegalStateException", .fieldLink RX2 90 "ParrotLog" "shipCount" "I", .fieldLink RX2 22 "ParrotLog" "fleet" "[LParrotLog$Ship;", .methodLink RX2 82 yX2_checkReachable, .instanceMethod yX2_checkReachable, .selects RX2 yX2_checkReachable yX2_checkReachable, .initialized RX2, .code yX2_checkReachable cX2_checkReachable 2 none, .fieldLink RX2 10 "ParrotLog" "log" "LParrotLog$Log;"] ++ wsX20 ++ wsX10 ++ wsX00 ++ (vx_atS RX2 41 "java/lang/IllegalArgumentException" ["java/lang/RuntimeException", "java/lang/Exception"]).filter goodWord ++ (vx_atS RX2 58 "java/lang/IllegalStateException" ["java/lang/RuntimeException", "java/lang/Exception"]).filter goodWord)
def wsX2_shipNumbered : List Cond := .code yX2_shipNumbered cX2_shipNumbered 2 (some (.object "ParrotLog$Ship")) :: ([.classLink RX2 243 "java/lang/IndexOutOfBoundsException", .initialized "java/lang/IndexOutOfBoundsException", .fieldLink RX2 90 "ParrotLog" "shipCount" "I", .fieldLink RX2 22 "ParrotLog" "fleet" "[LParrotLog$Ship;"] ++ wsX20 ++ (vx_atS RX2 245 "java/lang/IndexOutOfBoundsException" ["java/lang/RuntimeException", "java/lang/Exception"]).filter goodWord)
def wsX2_seek : List Cond := .code yX2_seek cX2_seek 5 (some .int) :: ([.methodLink RX2 101 yX2_shipNumbered, .instanceMethod yX2_shipNumbered, .selects RX2 yX2_shipNumbered yX2_shipNumbered, .initialized RX2, .code yX2_shipNumbered cX2_shipNumbered 2 (some (.object "ParrotLog$Ship")), .classLink RX2 243 "java/lang/IndexOutOfBoundsException", .initialized "java/lang/IndexOutOfBoundsException", .fieldLink RX2 90 "ParrotLog" "shipCount" "I", .fieldLink RX2 22 "ParrotLog" "fleet" "[LParrotLog$Ship;", .methodLink RX2 82 yX2_checkReachable, .instanceMethod yX2_checkReachable, .selects RX2 yX2_checkReachable yX2_checkReachable, .code yX2_checkReachable cX2_checkReachable 2 none, .classLink RX2 37 "java/lang/IllegalArgumentException", .initialized "java/lang/IllegalArgumentException", .fieldLink RX2 10 "ParrotLog" "log" "LParrotLog$Log;"] ++ wsX10 ++ wsX20 ++ wsX00 ++ (vx_atS RX2 245 "java/lang/IndexOutOfBoundsException" ["java/lang/RuntimeException", "java/lang/Exception"]).filter goodWord ++ (vx_atS RX2 41 "java/lang/IllegalArgumentException" ["java/lang/RuntimeException", "java/lang/Exception"]).filter goodWord)
def wsX2_checkHours : List Cond := .code yX2_checkHours cX2_checkHours 1 none :: ([.classLink RX2 37 "java/lang/IllegalArgumentException", .initialized "java/lang/IllegalArgumentException"] ++ (vx_atS RX2 41 "java/lang/IllegalArgumentException" ["java/lang/RuntimeException", "java/lang/Exception"]).filter goodWord)
def wsX2_mostHeard : List Cond := .code yX2_mostHeard cX2_mostHeard 3 (some .int) :: ([.fieldLink RX2 50 "ParrotLog" "stormOn" "Z"] ++ wsX20)
def wsX2_hearNext : List Cond := .code yX2_hearNext cX2_hearNext 6 (some .int) :: ([.fieldLink RX2 10 "ParrotLog" "log" "LParrotLog$Log;", .methodLink RX2 225 Lib.Math.min.name, .static Lib.Math.min.name, .initialized "java/lang/Math", .code Lib.Math.min.name Lib.Math.min.code 2 (some .int), .instanceMethod yX0_positionFrom, .initialized RX0, .selects RX0 yX0_positionFrom yX0_positionFrom, .code yX0_positionFrom cX0_positionFrom 3 (some .int), .fieldLink RX0 28 "ParrotLog$Log" "size" "I", .fieldLink RX0 9 "ParrotLog$Log" "offsets" "[I", .instanceMethod yX1_hear, .initialized RX1, .selects RX1 yX1_hear yX1_hear, .code yX1_hear cX1_hear 4 none, .fieldLink RX1 9 "ParrotLog$Ship" "known" "[I", .fieldLink RX1 15 "ParrotLog$Ship" "offset" "I", .fieldLink RX1 19 "ParrotLog$Ship" "heard" "I"] ++ wsX20 ++ wsX10 ++ wsX00)
def wsX2_passHours_r1 : List Cond := [Cond.fieldLink RX2 90 "ParrotLog" "shipCount" "I", Cond.fieldLink RX2 22 "ParrotLog" "fleet" "[LParrotLog$Ship;", Cond.fieldLink RX2 115 "ParrotLog" "hour" "I", Cond.methodLink RX2 105 yX2_checkHours, Cond.static yX2_checkHours, Cond.initialized RX2, Cond.code yX2_checkHours cX2_checkHours 1 none, Cond.classLink RX2 37 "java/lang/IllegalArgumentException", Cond.initialized "java/lang/IllegalArgumentException", Cond.methodLink RX2 108 yX2_mostHeard, Cond.instanceMethod yX2_mostHeard, Cond.selects RX2 yX2_mostHeard yX2_mostHeard, Cond.code yX2_mostHeard cX2_mostHeard 3 (some .int), Cond.fieldLink RX2 50 "ParrotLog" "stormOn" "Z", Cond.methodLink RX2 111 yX2_hearNext, Cond.instanceMethod yX2_hearNext, Cond.selects RX2 yX2_hearNext yX2_hearNext, Cond.code yX2_hearNext cX2_hearNext 6 (some .int), Cond.fieldLink RX2 10 "ParrotLog" "log" "LParrotLog$Log;", Cond.methodLink RX2 225 Lib.Math.min.name, Cond.static Lib.Math.min.name, Cond.initialized "java/lang/Math", Cond.code Lib.Math.min.name Lib.Math.min.code 2 (some .int), Cond.instanceMethod yX0_positionFrom]
def wsX2_passHours_r2 : List Cond := [Cond.initialized RX0, Cond.selects RX0 yX0_positionFrom yX0_positionFrom, Cond.code yX0_positionFrom cX0_positionFrom 3 (some .int), Cond.fieldLink RX0 28 "ParrotLog$Log" "size" "I", Cond.fieldLink RX0 9 "ParrotLog$Log" "offsets" "[I", Cond.instanceMethod yX1_hear, Cond.initialized RX1, Cond.selects RX1 yX1_hear yX1_hear, Cond.code yX1_hear cX1_hear 4 none, Cond.fieldLink RX1 9 "ParrotLog$Ship" "known" "[I", Cond.fieldLink RX1 15 "ParrotLog$Ship" "offset" "I", Cond.fieldLink RX1 19 "ParrotLog$Ship" "heard" "I"]
def wsX2_passHours : List Cond := .code yX2_passHours cX2_passHours 4 (some .int) :: ((wsX2_passHours_r1 ++ wsX2_passHours_r2) ++ wsX20 ++ wsX10 ++ wsX00 ++ (vx_atS RX2 41 "java/lang/IllegalArgumentException" ["java/lang/RuntimeException", "java/lang/Exception"]).filter goodWord)
def wsX2_hours : List Cond := .code yX2_hours cX2_hours 1 (some .int) :: ([.fieldLink RX2 115 "ParrotLog" "hour" "I"] ++ wsX20)
def wsX2_phrases : List Cond := .code yX2_phrases cX2_phrases 1 (some .int) :: ([.fieldLink RX2 10 "ParrotLog" "log" "LParrotLog$Log;"] ++ wsX20 ++ wsX00)
def wsX2_nextOffset : List Cond := .code yX2_nextOffset cX2_nextOffset 1 (some .int) :: ([.fieldLink RX2 10 "ParrotLog" "log" "LParrotLog$Log;"] ++ wsX20 ++ wsX00)
def wsX2_firstOffset : List Cond := .code yX2_firstOffset cX2_firstOffset 1 (some .int) :: ([.fieldLink RX2 10 "ParrotLog" "log" "LParrotLog$Log;"] ++ wsX20 ++ wsX00)
def wsX2_dropped : List Cond := .code yX2_dropped cX2_dropped 1 (some .int) :: ([.fieldLink RX2 10 "ParrotLog" "log" "LParrotLog$Log;"] ++ wsX20 ++ wsX00)
def wsX2_isKept : List Cond := .code yX2_isKept cX2_isKept 2 (some .boolean) :: ([.fieldLink RX2 10 "ParrotLog" "log" "LParrotLog$Log;", .instanceMethod yX0_positionOf, .initialized RX0, .selects RX0 yX0_positionOf yX0_positionOf, .code yX0_positionOf cX0_positionOf 3 (some .int), .fieldLink RX0 28 "ParrotLog$Log" "size" "I", .fieldLink RX0 9 "ParrotLog$Log" "offsets" "[I", .methodLink RX0 43 yX0_positionFrom, .instanceMethod yX0_positionFrom, .selects RX0 yX0_positionFrom yX0_positionFrom, .code yX0_positionFrom cX0_positionFrom 3 (some .int)] ++ wsX20 ++ wsX00)
def wsX2_keptPosition : List Cond := .code yX2_keptPosition cX2_keptPosition 3 (some .int) :: ([.classLink RX2 243 "java/lang/IndexOutOfBoundsException", .initialized "java/lang/IndexOutOfBoundsException", .fieldLink RX2 10 "ParrotLog" "log" "LParrotLog$Log;", .instanceMethod yX0_positionOf, .initialized RX0, .selects RX0 yX0_positionOf yX0_positionOf, .code yX0_positionOf cX0_positionOf 3 (some .int), .fieldLink RX0 28 "ParrotLog$Log" "size" "I", .fieldLink RX0 9 "ParrotLog$Log" "offsets" "[I", .methodLink RX0 43 yX0_positionFrom, .instanceMethod yX0_positionFrom, .selects RX0 yX0_positionFrom yX0_positionFrom, .code yX0_positionFrom cX0_positionFrom 3 (some .int)] ++ wsX20 ++ wsX00 ++ (vx_atS RX2 245 "java/lang/IndexOutOfBoundsException" ["java/lang/RuntimeException", "java/lang/Exception"]).filter goodWord)
def wsX2_keyAt : List Cond := .code yX2_keyAt cX2_keyAt 2 (some .int) :: ([.fieldLink RX2 10 "ParrotLog" "log" "LParrotLog$Log;", .methodLink RX2 137 yX2_keptPosition, .instanceMethod yX2_keptPosition, .selects RX2 yX2_keptPosition yX2_keptPosition, .initialized RX2, .code yX2_keptPosition cX2_keptPosition 3 (some .int), .classLink RX2 243 "java/lang/IndexOutOfBoundsException", .initialized "java/lang/IndexOutOfBoundsException", .instanceMethod yX0_positionOf, .initialized RX0, .selects RX0 yX0_positionOf yX0_positionOf, .code yX0_positionOf cX0_positionOf 3 (some .int), .fieldLink RX0 28 "ParrotLog$Log" "size" "I", .fieldLink RX0 9 "ParrotLog$Log" "offsets" "[I", .methodLink RX0 43 yX0_positionFrom, .instanceMethod yX0_positionFrom, .selects RX0 yX0_positionFrom yX0_positionFrom, .code yX0_positionFrom cX0_positionFrom 3 (some .int)] ++ wsX20 ++ wsX00 ++ (vx_atS RX2 245 "java/lang/IndexOutOfBoundsException" ["java/lang/RuntimeException", "java/lang/Exception"]).filter goodWord)
def wsX2_valueAt : List Cond := .code yX2_valueAt cX2_valueAt 2 (some .int) :: ([.fieldLink RX2 10 "ParrotLog" "log" "LParrotLog$Log;", .methodLink RX2 137 yX2_keptPosition, .instanceMethod yX2_keptPosition, .selects RX2 yX2_keptPosition yX2_keptPosition, .initialized RX2, .code yX2_keptPosition cX2_keptPosition 3 (some .int), .classLink RX2 243 "java/lang/IndexOutOfBoundsException", .initialized "java/lang/IndexOutOfBoundsException", .instanceMethod yX0_positionOf, .initialized RX0, .selects RX0 yX0_positionOf yX0_positionOf, .code yX0_positionOf cX0_positionOf 3 (some .int), .fieldLink RX0 28 "ParrotLog$Log" "size" "I", .fieldLink RX0 9 "ParrotLog$Log" "offsets" "[I", .methodLink RX0 43 yX0_positionFrom, .instanceMethod yX0_positionFrom, .selects RX0 yX0_positionFrom yX0_positionFrom, .code yX0_positionFrom cX0_positionFrom 3 (some .int)] ++ wsX20 ++ wsX00 ++ (vx_atS RX2 245 "java/lang/IndexOutOfBoundsException" ["java/lang/RuntimeException", "java/lang/Exception"]).filter goodWord)
def wsX2_stormAt : List Cond := .code yX2_stormAt cX2_stormAt 2 (some .int) :: ([.fieldLink RX2 10 "ParrotLog" "log" "LParrotLog$Log;", .methodLink RX2 137 yX2_keptPosition, .instanceMethod yX2_keptPosition, .selects RX2 yX2_keptPosition yX2_keptPosition, .initialized RX2, .code yX2_keptPosition cX2_keptPosition 3 (some .int), .classLink RX2 243 "java/lang/IndexOutOfBoundsException", .initialized "java/lang/IndexOutOfBoundsException", .instanceMethod yX0_positionOf, .initialized RX0, .selects RX0 yX0_positionOf yX0_positionOf, .code yX0_positionOf cX0_positionOf 3 (some .int), .fieldLink RX0 28 "ParrotLog$Log" "size" "I", .fieldLink RX0 9 "ParrotLog$Log" "offsets" "[I", .methodLink RX0 43 yX0_positionFrom, .instanceMethod yX0_positionFrom, .selects RX0 yX0_positionFrom yX0_positionFrom, .code yX0_positionFrom cX0_positionFrom 3 (some .int)] ++ wsX20 ++ wsX00 ++ (vx_atS RX2 245 "java/lang/IndexOutOfBoundsException" ["java/lang/RuntimeException", "java/lang/Exception"]).filter goodWord)
def wsX2_checkKey : List Cond := .code yX2_checkKey cX2_checkKey 1 none :: ([.classLink RX2 243 "java/lang/IndexOutOfBoundsException", .initialized "java/lang/IndexOutOfBoundsException", .methodLink RX2 33 yX2_isKey, .static yX2_isKey, .initialized RX2, .code yX2_isKey cX2_isKey 1 (some .boolean)] ++ (vx_atS RX2 245 "java/lang/IndexOutOfBoundsException" ["java/lang/RuntimeException", "java/lang/Exception"]).filter goodWord)
def wsX2_latestOf : List Cond := .code yX2_latestOf cX2_latestOf 2 (some .int) :: ([.fieldLink RX2 10 "ParrotLog" "log" "LParrotLog$Log;", .methodLink RX2 146 yX2_checkKey, .static yX2_checkKey, .initialized RX2, .code yX2_checkKey cX2_checkKey 1 none, .classLink RX2 243 "java/lang/IndexOutOfBoundsException", .initialized "java/lang/IndexOutOfBoundsException", .methodLink RX2 33 yX2_isKey, .static yX2_isKey, .code yX2_isKey cX2_isKey 1 (some .boolean), .instanceMethod yX0_latestOffset, .initialized RX0, .selects RX0 yX0_latestOffset yX0_latestOffset, .code yX0_latestOffset cX0_latestOffset 3 (some .int), .fieldLink RX0 28 "ParrotLog$Log" "size" "I", .fieldLink RX0 9 "ParrotLog$Log" "offsets" "[I", .methodLink RX0 35 yX0_latestPosition, .instanceMethod yX0_latestPosition, .selects RX0 yX0_latestPosition yX0_latestPosition, .code yX0_latestPosition cX0_latestPosition 5 (some .int), .fieldLink RX0 15 "ParrotLog$Log" "keys" "[I"] ++ wsX20 ++ wsX00 ++ (vx_atS RX2 245 "java/lang/IndexOutOfBoundsException" ["java/lang/RuntimeException", "java/lang/Exception"]).filter goodWord)
def wsX2_valueOf : List Cond := .code yX2_valueOf cX2_valueOf 2 (some .int) :: ([.fieldLink RX2 10 "ParrotLog" "log" "LParrotLog$Log;", .methodLink RX2 146 yX2_checkKey, .static yX2_checkKey, .initialized RX2, .code yX2_checkKey cX2_checkKey 1 none, .classLink RX2 243 "java/lang/IndexOutOfBoundsException", .initialized "java/lang/IndexOutOfBoundsException", .methodLink RX2 33 yX2_isKey, .static yX2_isKey, .code yX2_isKey cX2_isKey 1 (some .boolean), .instanceMethod yX0_latestValue, .initialized RX0, .selects RX0 yX0_latestValue yX0_latestValue, .code yX0_latestValue cX0_latestValue 3 (some .int), .fieldLink RX0 28 "ParrotLog$Log" "size" "I", .fieldLink RX0 18 "ParrotLog$Log" "values" "[I", .methodLink RX0 35 yX0_latestPosition, .instanceMethod yX0_latestPosition, .selects RX0 yX0_latestPosition yX0_latestPosition, .code yX0_latestPosition cX0_latestPosition 5 (some .int), .fieldLink RX0 15 "ParrotLog$Log" "keys" "[I"] ++ wsX20 ++ wsX00 ++ (vx_atS RX2 245 "java/lang/IndexOutOfBoundsException" ["java/lang/RuntimeException", "java/lang/Exception"]).filter goodWord)
def wsX2_countOf : List Cond := .code yX2_countOf cX2_countOf 2 (some .int) :: ([.fieldLink RX2 10 "ParrotLog" "log" "LParrotLog$Log;", .methodLink RX2 146 yX2_checkKey, .static yX2_checkKey, .initialized RX2, .code yX2_checkKey cX2_checkKey 1 none, .classLink RX2 243 "java/lang/IndexOutOfBoundsException", .initialized "java/lang/IndexOutOfBoundsException", .methodLink RX2 33 yX2_isKey, .static yX2_isKey, .code yX2_isKey cX2_isKey 1 (some .boolean), .instanceMethod yX0_countKey, .initialized RX0, .selects RX0 yX0_countKey yX0_countKey, .code yX0_countKey cX0_countKey 2 (some .int), .fieldLink RX0 15 "ParrotLog$Log" "keys" "[I", .methodLink RX0 49 yX0_countEqual, .instanceMethod yX0_countEqual, .selects RX0 yX0_countEqual yX0_countEqual, .code yX0_countEqual cX0_countEqual 5 (some .int), .fieldLink RX0 28 "ParrotLog$Log" "size" "I"] ++ wsX20 ++ wsX00 ++ (vx_atS RX2 245 "java/lang/IndexOutOfBoundsException" ["java/lang/RuntimeException", "java/lang/Exception"]).filter goodWord)
def wsX2_storms : List Cond := .code yX2_storms cX2_storms 1 (some .int) :: ([.fieldLink RX2 59 "ParrotLog" "stormCount" "I"] ++ wsX20)
def wsX2_isStormy : List Cond := .code yX2_isStormy cX2_isStormy 1 (some .boolean) :: ([.fieldLink RX2 50 "ParrotLog" "stormOn" "Z"] ++ wsX20)
def wsX2_saidIn : List Cond := .code yX2_saidIn cX2_saidIn 2 (some .int) :: ([.fieldLink RX2 16 "ParrotLog" "saidInStorm" "[I", .methodLink RX2 67 yX2_checkStorm, .instanceMethod yX2_checkStorm, .selects RX2 yX2_checkStorm yX2_checkStorm, .initialized RX2, .code yX2_checkStorm cX2_checkStorm 2 none, .classLink RX2 243 "java/lang/IndexOutOfBoundsException", .initialized "java/lang/IndexOutOfBoundsException", .fieldLink RX2 59 "ParrotLog" "stormCount" "I"] ++ wsX20 ++ (vx_atS RX2 245 "java/lang/IndexOutOfBoundsException" ["java/lang/RuntimeException", "java/lang/Exception"]).filter goodWord)
def wsX2_keptOf : List Cond := .code yX2_keptOf cX2_keptOf 2 (some .int) :: ([.fieldLink RX2 10 "ParrotLog" "log" "LParrotLog$Log;", .methodLink RX2 67 yX2_checkStorm, .instanceMethod yX2_checkStorm, .selects RX2 yX2_checkStorm yX2_checkStorm, .initialized RX2, .code yX2_checkStorm cX2_checkStorm 2 none, .classLink RX2 243 "java/lang/IndexOutOfBoundsException", .initialized "java/lang/IndexOutOfBoundsException", .fieldLink RX2 59 "ParrotLog" "stormCount" "I", .instanceMethod yX0_countStorm, .initialized RX0, .selects RX0 yX0_countStorm yX0_countStorm, .code yX0_countStorm cX0_countStorm 2 (some .int), .fieldLink RX0 21 "ParrotLog$Log" "stormNumbers" "[I", .methodLink RX0 49 yX0_countEqual, .instanceMethod yX0_countEqual, .selects RX0 yX0_countEqual yX0_countEqual, .code yX0_countEqual cX0_countEqual 5 (some .int), .fieldLink RX0 28 "ParrotLog$Log" "size" "I"] ++ wsX20 ++ wsX00 ++ (vx_atS RX2 245 "java/lang/IndexOutOfBoundsException" ["java/lang/RuntimeException", "java/lang/Exception"]).filter goodWord)
def wsX2_ships : List Cond := .code yX2_ships cX2_ships 1 (some .int) :: ([.fieldLink RX2 90 "ParrotLog" "shipCount" "I"] ++ wsX20)
def wsX2_offsetOf : List Cond := .code yX2_offsetOf cX2_offsetOf 2 (some .int) :: ([.methodLink RX2 101 yX2_shipNumbered, .instanceMethod yX2_shipNumbered, .selects RX2 yX2_shipNumbered yX2_shipNumbered, .initialized RX2, .code yX2_shipNumbered cX2_shipNumbered 2 (some (.object "ParrotLog$Ship")), .classLink RX2 243 "java/lang/IndexOutOfBoundsException", .initialized "java/lang/IndexOutOfBoundsException", .fieldLink RX2 90 "ParrotLog" "shipCount" "I", .fieldLink RX2 22 "ParrotLog" "fleet" "[LParrotLog$Ship;"] ++ wsX10 ++ wsX20 ++ (vx_atS RX2 245 "java/lang/IndexOutOfBoundsException" ["java/lang/RuntimeException", "java/lang/Exception"]).filter goodWord)
def wsX2_lag : List Cond := .code yX2_lag cX2_lag 2 (some .int) :: ([.fieldLink RX2 10 "ParrotLog" "log" "LParrotLog$Log;", .instanceMethod yX0_positionFrom, .initialized RX0, .selects RX0 yX0_positionFrom yX0_positionFrom, .code yX0_positionFrom cX0_positionFrom 3 (some .int), .fieldLink RX0 28 "ParrotLog$Log" "size" "I", .fieldLink RX0 9 "ParrotLog$Log" "offsets" "[I"] ++ wsX20 ++ wsX00 ++ wsX10)
def wsX2_lagOf : List Cond := .code yX2_lagOf cX2_lagOf 2 (some .int) :: ([.methodLink RX2 101 yX2_shipNumbered, .instanceMethod yX2_shipNumbered, .selects RX2 yX2_shipNumbered yX2_shipNumbered, .initialized RX2, .code yX2_shipNumbered cX2_shipNumbered 2 (some (.object "ParrotLog$Ship")), .classLink RX2 243 "java/lang/IndexOutOfBoundsException", .initialized "java/lang/IndexOutOfBoundsException", .fieldLink RX2 90 "ParrotLog" "shipCount" "I", .fieldLink RX2 22 "ParrotLog" "fleet" "[LParrotLog$Ship;", .methodLink RX2 161 yX2_lag, .instanceMethod yX2_lag, .selects RX2 yX2_lag yX2_lag, .code yX2_lag cX2_lag 2 (some .int), .fieldLink RX2 10 "ParrotLog" "log" "LParrotLog$Log;", .instanceMethod yX0_positionFrom, .initialized RX0, .selects RX0 yX0_positionFrom yX0_positionFrom, .code yX0_positionFrom cX0_positionFrom 3 (some .int), .fieldLink RX0 28 "ParrotLog$Log" "size" "I", .fieldLink RX0 9 "ParrotLog$Log" "offsets" "[I"] ++ wsX20 ++ wsX00 ++ wsX10 ++ (vx_atS RX2 245 "java/lang/IndexOutOfBoundsException" ["java/lang/RuntimeException", "java/lang/Exception"]).filter goodWord)
def wsX2_heardBy : List Cond := .code yX2_heardBy cX2_heardBy 2 (some .int) :: ([.methodLink RX2 101 yX2_shipNumbered, .instanceMethod yX2_shipNumbered, .selects RX2 yX2_shipNumbered yX2_shipNumbered, .initialized RX2, .code yX2_shipNumbered cX2_shipNumbered 2 (some (.object "ParrotLog$Ship")), .classLink RX2 243 "java/lang/IndexOutOfBoundsException", .initialized "java/lang/IndexOutOfBoundsException", .fieldLink RX2 90 "ParrotLog" "shipCount" "I", .fieldLink RX2 22 "ParrotLog" "fleet" "[LParrotLog$Ship;"] ++ wsX10 ++ wsX20 ++ (vx_atS RX2 245 "java/lang/IndexOutOfBoundsException" ["java/lang/RuntimeException", "java/lang/Exception"]).filter goodWord)
def wsX2_missedBy : List Cond := .code yX2_missedBy cX2_missedBy 2 (some .int) :: ([.methodLink RX2 101 yX2_shipNumbered, .instanceMethod yX2_shipNumbered, .selects RX2 yX2_shipNumbered yX2_shipNumbered, .initialized RX2, .code yX2_shipNumbered cX2_shipNumbered 2 (some (.object "ParrotLog$Ship")), .classLink RX2 243 "java/lang/IndexOutOfBoundsException", .initialized "java/lang/IndexOutOfBoundsException", .fieldLink RX2 90 "ParrotLog" "shipCount" "I", .fieldLink RX2 22 "ParrotLog" "fleet" "[LParrotLog$Ship;"] ++ wsX10 ++ wsX20 ++ (vx_atS RX2 245 "java/lang/IndexOutOfBoundsException" ["java/lang/RuntimeException", "java/lang/Exception"]).filter goodWord)
def wsX2_knownBy : List Cond := .code yX2_knownBy cX2_knownBy 4 (some .int) :: ([.methodLink RX2 101 yX2_shipNumbered, .instanceMethod yX2_shipNumbered, .selects RX2 yX2_shipNumbered yX2_shipNumbered, .initialized RX2, .code yX2_shipNumbered cX2_shipNumbered 2 (some (.object "ParrotLog$Ship")), .classLink RX2 243 "java/lang/IndexOutOfBoundsException", .initialized "java/lang/IndexOutOfBoundsException", .fieldLink RX2 90 "ParrotLog" "shipCount" "I", .fieldLink RX2 22 "ParrotLog" "fleet" "[LParrotLog$Ship;", .methodLink RX2 146 yX2_checkKey, .static yX2_checkKey, .code yX2_checkKey cX2_checkKey 1 none, .methodLink RX2 33 yX2_isKey, .static yX2_isKey, .code yX2_isKey cX2_isKey 1 (some .boolean)] ++ wsX10 ++ wsX20 ++ (vx_atS RX2 245 "java/lang/IndexOutOfBoundsException" ["java/lang/RuntimeException", "java/lang/Exception"]).filter goodWord)
def wsX2_errorsAfter : List Cond := .code yX2_errorsAfter cX2_errorsAfter 9 (some .int) :: ([.fieldLink RX2 10 "ParrotLog" "log" "LParrotLog$Log;", .methodLink RX2 225 Lib.Math.min.name, .static Lib.Math.min.name, .initialized "java/lang/Math", .code Lib.Math.min.name Lib.Math.min.code 2 (some .int), .instanceMethod yX0_positionFrom, .initialized RX0, .selects RX0 yX0_positionFrom yX0_positionFrom, .code yX0_positionFrom cX0_positionFrom 3 (some .int), .fieldLink RX0 28 "ParrotLog$Log" "size" "I", .fieldLink RX0 9 "ParrotLog$Log" "offsets" "[I", .instanceMethod yX0_latestPosition, .selects RX0 yX0_latestPosition yX0_latestPosition, .code yX0_latestPosition cX0_latestPosition 5 (some .int), .fieldLink RX0 15 "ParrotLog$Log" "keys" "[I", .instanceMethod yX0_latestValue, .selects RX0 yX0_latestValue yX0_latestValue, .code yX0_latestValue cX0_latestValue 3 (some .int), .fieldLink RX0 18 "ParrotLog$Log" "values" "[I", .methodLink RX0 35 yX0_latestPosition] ++ wsX20 ++ wsX10 ++ wsX00)
def wsX2_errorsOf_r1 : List Cond := [Cond.methodLink RX2 101 yX2_shipNumbered, Cond.instanceMethod yX2_shipNumbered, Cond.selects RX2 yX2_shipNumbered yX2_shipNumbered, Cond.initialized RX2, Cond.code yX2_shipNumbered cX2_shipNumbered 2 (some (.object "ParrotLog$Ship")), Cond.classLink RX2 243 "java/lang/IndexOutOfBoundsException", Cond.initialized "java/lang/IndexOutOfBoundsException", Cond.fieldLink RX2 90 "ParrotLog" "shipCount" "I", Cond.fieldLink RX2 22 "ParrotLog" "fleet" "[LParrotLog$Ship;", Cond.methodLink RX2 174 yX2_errorsAfter, Cond.instanceMethod yX2_errorsAfter, Cond.selects RX2 yX2_errorsAfter yX2_errorsAfter, Cond.code yX2_errorsAfter cX2_errorsAfter 9 (some .int), Cond.fieldLink RX2 10 "ParrotLog" "log" "LParrotLog$Log;", Cond.methodLink RX2 225 Lib.Math.min.name, Cond.static Lib.Math.min.name, Cond.initialized "java/lang/Math", Cond.code Lib.Math.min.name Lib.Math.min.code 2 (some .int), Cond.instanceMethod yX0_positionFrom, Cond.initialized RX0, Cond.selects RX0 yX0_positionFrom yX0_positionFrom, Cond.code yX0_positionFrom cX0_positionFrom 3 (some .int), Cond.fieldLink RX0 28 "ParrotLog$Log" "size" "I", Cond.fieldLink RX0 9 "ParrotLog$Log" "offsets" "[I"]
def wsX2_errorsOf_r2 : List Cond := [Cond.instanceMethod yX0_latestPosition, Cond.selects RX0 yX0_latestPosition yX0_latestPosition, Cond.code yX0_latestPosition cX0_latestPosition 5 (some .int), Cond.fieldLink RX0 15 "ParrotLog$Log" "keys" "[I", Cond.instanceMethod yX0_latestValue, Cond.selects RX0 yX0_latestValue yX0_latestValue, Cond.code yX0_latestValue cX0_latestValue 3 (some .int), Cond.fieldLink RX0 18 "ParrotLog$Log" "values" "[I", Cond.methodLink RX0 35 yX0_latestPosition]
def wsX2_errorsOf : List Cond := .code yX2_errorsOf cX2_errorsOf 2 (some .int) :: ((wsX2_errorsOf_r1 ++ wsX2_errorsOf_r2) ++ wsX20 ++ wsX10 ++ wsX00 ++ (vx_atS RX2 245 "java/lang/IndexOutOfBoundsException" ["java/lang/RuntimeException", "java/lang/Exception"]).filter goodWord)
def wsX2_farthestBehind : List Cond := .code yX2_farthestBehind cX2_farthestBehind 5 (some .int) :: ([.fieldLink RX2 90 "ParrotLog" "shipCount" "I", .fieldLink RX2 22 "ParrotLog" "fleet" "[LParrotLog$Ship;", .methodLink RX2 161 yX2_lag, .instanceMethod yX2_lag, .selects RX2 yX2_lag yX2_lag, .initialized RX2, .code yX2_lag cX2_lag 2 (some .int), .fieldLink RX2 10 "ParrotLog" "log" "LParrotLog$Log;", .instanceMethod yX0_positionFrom, .initialized RX0, .selects RX0 yX0_positionFrom yX0_positionFrom, .code yX0_positionFrom cX0_positionFrom 3 (some .int), .fieldLink RX0 28 "ParrotLog$Log" "size" "I", .fieldLink RX0 9 "ParrotLog$Log" "offsets" "[I"] ++ wsX20 ++ wsX00 ++ wsX10)
def wsX2_wouldCompact_r1 : List Cond := [Cond.fieldLink RX2 10 "ParrotLog" "log" "LParrotLog$Log;", Cond.methodLink RX2 75 yX2_markCompacted, Cond.instanceMethod yX2_markCompacted, Cond.selects RX2 yX2_markCompacted yX2_markCompacted, Cond.initialized RX2, Cond.code yX2_markCompacted cX2_markCompacted 1 none, Cond.methodLink RX2 220 yX2_leastShipOffset, Cond.instanceMethod yX2_leastShipOffset, Cond.selects RX2 yX2_leastShipOffset yX2_leastShipOffset, Cond.code yX2_leastShipOffset cX2_leastShipOffset 3 (some .int), Cond.fieldLink RX2 90 "ParrotLog" "shipCount" "I", Cond.fieldLink RX2 22 "ParrotLog" "fleet" "[LParrotLog$Ship;", Cond.methodLink RX2 225 Lib.Math.min.name, Cond.static Lib.Math.min.name, Cond.initialized "java/lang/Math", Cond.code Lib.Math.min.name Lib.Math.min.code 2 (some .int), Cond.instanceMethod yX0_markCompacted, Cond.initialized RX0, Cond.selects RX0 yX0_markCompacted yX0_markCompacted, Cond.code yX0_markCompacted cX0_markCompacted 5 none, Cond.fieldLink RX0 28 "ParrotLog$Log" "size" "I", Cond.fieldLink RX0 15 "ParrotLog$Log" "keys" "[I", Cond.fieldLink RX0 18 "ParrotLog$Log" "values" "[I", Cond.fieldLink RX0 9 "ParrotLog$Log" "offsets" "[I"]
def wsX2_wouldCompact_r2 : List Cond := [Cond.fieldLink RX0 24 "ParrotLog$Log" "marked" "[Z", Cond.methodLink RX0 35 yX0_latestPosition, Cond.instanceMethod yX0_latestPosition, Cond.selects RX0 yX0_latestPosition yX0_latestPosition, Cond.code yX0_latestPosition cX0_latestPosition 5 (some .int), Cond.instanceMethod yX0_countMarked, Cond.selects RX0 yX0_countMarked yX0_countMarked, Cond.code yX0_countMarked cX0_countMarked 1 (some .int), Cond.methodLink RX0 39 yX0_countMarkedFrom, Cond.instanceMethod yX0_countMarkedFrom, Cond.selects RX0 yX0_countMarkedFrom yX0_countMarkedFrom, Cond.code yX0_countMarkedFrom cX0_countMarkedFrom 4 (some .int), Cond.methodLink RX0 43 yX0_positionFrom, Cond.instanceMethod yX0_positionFrom, Cond.selects RX0 yX0_positionFrom yX0_positionFrom, Cond.code yX0_positionFrom cX0_positionFrom 3 (some .int)]
def wsX2_wouldCompact : List Cond := .code yX2_wouldCompact cX2_wouldCompact 1 (some .int) :: ((wsX2_wouldCompact_r1 ++ wsX2_wouldCompact_r2) ++ wsX20 ++ wsX00 ++ wsX10)
def wsX2_wouldMiss_r1 : List Cond := [Cond.fieldLink RX2 10 "ParrotLog" "log" "LParrotLog$Log;", Cond.methodLink RX2 101 yX2_shipNumbered, Cond.instanceMethod yX2_shipNumbered, Cond.selects RX2 yX2_shipNumbered yX2_shipNumbered, Cond.initialized RX2, Cond.code yX2_shipNumbered cX2_shipNumbered 2 (some (.object "ParrotLog$Ship")), Cond.classLink RX2 243 "java/lang/IndexOutOfBoundsException", Cond.initialized "java/lang/IndexOutOfBoundsException", Cond.fieldLink RX2 90 "ParrotLog" "shipCount" "I", Cond.fieldLink RX2 22 "ParrotLog" "fleet" "[LParrotLog$Ship;", Cond.methodLink RX2 75 yX2_markCompacted, Cond.instanceMethod yX2_markCompacted, Cond.selects RX2 yX2_markCompacted yX2_markCompacted, Cond.code yX2_markCompacted cX2_markCompacted 1 none, Cond.methodLink RX2 220 yX2_leastShipOffset, Cond.instanceMethod yX2_leastShipOffset, Cond.selects RX2 yX2_leastShipOffset yX2_leastShipOffset, Cond.code yX2_leastShipOffset cX2_leastShipOffset 3 (some .int), Cond.methodLink RX2 225 Lib.Math.min.name, Cond.static Lib.Math.min.name, Cond.initialized "java/lang/Math", Cond.code Lib.Math.min.name Lib.Math.min.code 2 (some .int), Cond.instanceMethod yX0_markCompacted, Cond.initialized RX0]
def wsX2_wouldMiss_r2 : List Cond := [Cond.selects RX0 yX0_markCompacted yX0_markCompacted, Cond.code yX0_markCompacted cX0_markCompacted 5 none, Cond.fieldLink RX0 28 "ParrotLog$Log" "size" "I", Cond.fieldLink RX0 15 "ParrotLog$Log" "keys" "[I", Cond.fieldLink RX0 18 "ParrotLog$Log" "values" "[I", Cond.fieldLink RX0 9 "ParrotLog$Log" "offsets" "[I", Cond.fieldLink RX0 24 "ParrotLog$Log" "marked" "[Z", Cond.methodLink RX0 35 yX0_latestPosition, Cond.instanceMethod yX0_latestPosition, Cond.selects RX0 yX0_latestPosition yX0_latestPosition, Cond.code yX0_latestPosition cX0_latestPosition 5 (some .int), Cond.instanceMethod yX0_countMarkedFrom, Cond.selects RX0 yX0_countMarkedFrom yX0_countMarkedFrom, Cond.code yX0_countMarkedFrom cX0_countMarkedFrom 4 (some .int), Cond.methodLink RX0 43 yX0_positionFrom, Cond.instanceMethod yX0_positionFrom, Cond.selects RX0 yX0_positionFrom yX0_positionFrom, Cond.code yX0_positionFrom cX0_positionFrom 3 (some .int)]
def wsX2_wouldMiss : List Cond := .code yX2_wouldMiss cX2_wouldMiss 3 (some .int) :: ((wsX2_wouldMiss_r1 ++ wsX2_wouldMiss_r2) ++ wsX20 ++ wsX10 ++ wsX00 ++ (vx_atS RX2 245 "java/lang/IndexOutOfBoundsException" ["java/lang/RuntimeException", "java/lang/Exception"]).filter goodWord)
def wsX2_meanLag : List Cond := .code yX2_meanLag cX2_meanLag 3 (some .double) :: ([.fieldLink RX2 90 "ParrotLog" "shipCount" "I", .fieldLink RX2 22 "ParrotLog" "fleet" "[LParrotLog$Ship;", .methodLink RX2 161 yX2_lag, .instanceMethod yX2_lag, .selects RX2 yX2_lag yX2_lag, .initialized RX2, .code yX2_lag cX2_lag 2 (some .int), .fieldLink RX2 10 "ParrotLog" "log" "LParrotLog$Log;", .instanceMethod yX0_positionFrom, .initialized RX0, .selects RX0 yX0_positionFrom yX0_positionFrom, .code yX0_positionFrom cX0_positionFrom 3 (some .int), .fieldLink RX0 28 "ParrotLog$Log" "size" "I", .fieldLink RX0 9 "ParrotLog$Log" "offsets" "[I"] ++ wsX20 ++ wsX00 ++ wsX10)
def wsX3_init : List Cond := .code yX3_init cX3_init 1 none :: ([.methodLink RX3 1 objectInit, .instanceMethod objectInit, .code objectInit ⟨#[0xb1]⟩ 1 none, .classLink RX3 7 "[I", .fieldLink RX3 9 "ParrotLogLaw$Sim" "log" "[[I", .arrayClass .int, .fieldLink RX3 15 "ParrotLogLaw$Sim" "said" "[I", .fieldLink RX3 18 "ParrotLogLaw$Sim" "ships" "[[I"] ++ wsX30)
def wsX3_with : List Cond := .code yX3_with cX3_with 4 (some (.array (.array .int))) :: ([.classLink RX3 7 "[I"])
def wsX3_dropAt : List Cond := .code yX3_dropAt cX3_dropAt 7 none :: ([.fieldLink RX3 9 "ParrotLogLaw$Sim" "log" "[[I", .classLink RX3 7 "[I", .fieldLink RX3 18 "ParrotLogLaw$Sim" "ships" "[[I", .fieldLink RX3 21 "ParrotLogLaw$Sim" "dropped" "I"] ++ wsX30)
def wsX3_say : List Cond := .code yX3_say cX3_say 3 (some .int) :: ([.fieldLink RX3 9 "ParrotLogLaw$Sim" "log" "[[I", .arrayClass .int, .fieldLink RX3 29 "ParrotLogLaw$Sim" "next" "I", .fieldLink RX3 32 "ParrotLogLaw$Sim" "isOn" "Z", .fieldLink RX3 15 "ParrotLogLaw$Sim" "said" "[I", .methodLink RX3 25 yX3_dropAt, .instanceMethod yX3_dropAt, .selects RX3 yX3_dropAt yX3_dropAt, .initialized RX3, .code yX3_dropAt cX3_dropAt 7 none, .classLink RX3 7 "[I", .fieldLink RX3 18 "ParrotLogLaw$Sim" "ships" "[[I", .fieldLink RX3 21 "ParrotLogLaw$Sim" "dropped" "I", .methodLink RX3 36 yX3_with, .static yX3_with, .code yX3_with cX3_with 4 (some (.array (.array .int)))] ++ wsX30)
def wsX3_compact : List Cond := .code yX3_compact cX3_compact 8 (some .int) :: ([.fieldLink RX3 9 "ParrotLogLaw$Sim" "log" "[[I", .fieldLink RX3 18 "ParrotLogLaw$Sim" "ships" "[[I", .methodLink RX3 25 yX3_dropAt, .instanceMethod yX3_dropAt, .selects RX3 yX3_dropAt yX3_dropAt, .initialized RX3, .code yX3_dropAt cX3_dropAt 7 none, .classLink RX3 7 "[I", .fieldLink RX3 21 "ParrotLogLaw$Sim" "dropped" "I"] ++ wsX30)
def wsX3_pass : List Cond := .code yX3_pass cX3_pass 13 (some .int) :: ([.fieldLink RX3 40 "ParrotLogLaw$Sim" "hours" "I", .fieldLink RX3 32 "ParrotLogLaw$Sim" "isOn" "Z", .fieldLink RX3 18 "ParrotLogLaw$Sim" "ships" "[[I", .fieldLink RX3 9 "ParrotLogLaw$Sim" "log" "[[I"] ++ wsX30)
def wsX3_lag : List Cond := .code yX3_lag cX3_lag 7 (some .int) :: ([.fieldLink RX3 9 "ParrotLogLaw$Sim" "log" "[[I"] ++ wsX30)
def wsX3_value : List Cond := .code yX3_value cX3_value 7 (some .int) :: ([.fieldLink RX3 9 "ParrotLogLaw$Sim" "log" "[[I"] ++ wsX30)
def wsX3_errors : List Cond := .code yX3_errors cX3_errors 4 (some .int) :: ([.methodLink RX3 43 yX3_value, .instanceMethod yX3_value, .selects RX3 yX3_value yX3_value, .initialized RX3, .code yX3_value cX3_value 7 (some .int), .fieldLink RX3 9 "ParrotLogLaw$Sim" "log" "[[I"] ++ wsX30)
def wsX3_isSame_r1 : List Cond := [Cond.fieldLink RX3 9 "ParrotLogLaw$Sim" "log" "[[I", Cond.fieldLink RX3 40 "ParrotLogLaw$Sim" "hours" "I", Cond.fieldLink RX3 29 "ParrotLogLaw$Sim" "next" "I", Cond.fieldLink RX3 21 "ParrotLogLaw$Sim" "dropped" "I", Cond.fieldLink RX3 32 "ParrotLogLaw$Sim" "isOn" "Z", Cond.fieldLink RX3 15 "ParrotLogLaw$Sim" "said" "[I", Cond.fieldLink RX3 18 "ParrotLogLaw$Sim" "ships" "[[I", Cond.arrayClass .int, Cond.methodLink RX3 52 yX2_hours, Cond.instanceMethod yX2_hours, Cond.selects RX2 yX2_hours yX2_hours, Cond.initialized RX2, Cond.code yX2_hours cX2_hours 1 (some .int), Cond.fieldLink RX2 115 "ParrotLog" "hour" "I", Cond.methodLink RX3 57 yX2_phrases, Cond.instanceMethod yX2_phrases, Cond.selects RX2 yX2_phrases yX2_phrases, Cond.code yX2_phrases cX2_phrases 1 (some .int), Cond.fieldLink RX2 10 "ParrotLog" "log" "LParrotLog$Log;", Cond.methodLink RX3 60 yX2_nextOffset, Cond.instanceMethod yX2_nextOffset, Cond.selects RX2 yX2_nextOffset yX2_nextOffset, Cond.code yX2_nextOffset cX2_nextOffset 1 (some .int), Cond.methodLink RX3 63 yX2_firstOffset]
def wsX3_isSame_r2 : List Cond := [Cond.instanceMethod yX2_firstOffset, Cond.selects RX2 yX2_firstOffset yX2_firstOffset, Cond.code yX2_firstOffset cX2_firstOffset 1 (some .int), Cond.methodLink RX3 66 yX2_dropped, Cond.instanceMethod yX2_dropped, Cond.selects RX2 yX2_dropped yX2_dropped, Cond.code yX2_dropped cX2_dropped 1 (some .int), Cond.methodLink RX3 68 yX2_isStormy, Cond.instanceMethod yX2_isStormy, Cond.selects RX2 yX2_isStormy yX2_isStormy, Cond.code yX2_isStormy cX2_isStormy 1 (some .boolean), Cond.fieldLink RX2 50 "ParrotLog" "stormOn" "Z", Cond.methodLink RX3 72 yX2_storms, Cond.instanceMethod yX2_storms, Cond.selects RX2 yX2_storms yX2_storms, Cond.code yX2_storms cX2_storms 1 (some .int), Cond.fieldLink RX2 59 "ParrotLog" "stormCount" "I", Cond.methodLink RX3 75 yX2_ships, Cond.instanceMethod yX2_ships, Cond.selects RX2 yX2_ships yX2_ships, Cond.code yX2_ships cX2_ships 1 (some .int), Cond.fieldLink RX2 90 "ParrotLog" "shipCount" "I", Cond.methodLink RX3 77 yX2_isKept, Cond.instanceMethod yX2_isKept]
def wsX3_isSame_r3 : List Cond := [Cond.selects RX2 yX2_isKept yX2_isKept, Cond.code yX2_isKept cX2_isKept 2 (some .boolean), Cond.instanceMethod yX0_positionOf, Cond.initialized RX0, Cond.selects RX0 yX0_positionOf yX0_positionOf, Cond.code yX0_positionOf cX0_positionOf 3 (some .int), Cond.fieldLink RX0 28 "ParrotLog$Log" "size" "I", Cond.fieldLink RX0 9 "ParrotLog$Log" "offsets" "[I", Cond.methodLink RX0 43 yX0_positionFrom, Cond.instanceMethod yX0_positionFrom, Cond.selects RX0 yX0_positionFrom yX0_positionFrom, Cond.code yX0_positionFrom cX0_positionFrom 3 (some .int), Cond.methodLink RX3 81 yX2_keyAt, Cond.instanceMethod yX2_keyAt, Cond.selects RX2 yX2_keyAt yX2_keyAt, Cond.code yX2_keyAt cX2_keyAt 2 (some .int), Cond.methodLink RX2 137 yX2_keptPosition, Cond.instanceMethod yX2_keptPosition, Cond.selects RX2 yX2_keptPosition yX2_keptPosition, Cond.code yX2_keptPosition cX2_keptPosition 3 (some .int), Cond.classLink RX2 243 "java/lang/IndexOutOfBoundsException", Cond.initialized "java/lang/IndexOutOfBoundsException", Cond.methodLink RX3 84 yX2_valueAt, Cond.instanceMethod yX2_valueAt]
def wsX3_isSame_r4 : List Cond := [Cond.selects RX2 yX2_valueAt yX2_valueAt, Cond.code yX2_valueAt cX2_valueAt 2 (some .int), Cond.methodLink RX3 87 yX2_stormAt, Cond.instanceMethod yX2_stormAt, Cond.selects RX2 yX2_stormAt yX2_stormAt, Cond.code yX2_stormAt cX2_stormAt 2 (some .int), Cond.methodLink RX3 90 yX2_latestOf, Cond.instanceMethod yX2_latestOf, Cond.selects RX2 yX2_latestOf yX2_latestOf, Cond.code yX2_latestOf cX2_latestOf 2 (some .int), Cond.methodLink RX2 146 yX2_checkKey, Cond.static yX2_checkKey, Cond.code yX2_checkKey cX2_checkKey 1 none, Cond.methodLink RX2 33 yX2_isKey, Cond.static yX2_isKey, Cond.code yX2_isKey cX2_isKey 1 (some .boolean), Cond.instanceMethod yX0_latestOffset, Cond.selects RX0 yX0_latestOffset yX0_latestOffset, Cond.code yX0_latestOffset cX0_latestOffset 3 (some .int), Cond.methodLink RX0 35 yX0_latestPosition, Cond.instanceMethod yX0_latestPosition, Cond.selects RX0 yX0_latestPosition yX0_latestPosition, Cond.code yX0_latestPosition cX0_latestPosition 5 (some .int), Cond.fieldLink RX0 15 "ParrotLog$Log" "keys" "[I"]
def wsX3_isSame_r5 : List Cond := [Cond.methodLink RX3 93 yX2_valueOf, Cond.instanceMethod yX2_valueOf, Cond.selects RX2 yX2_valueOf yX2_valueOf, Cond.code yX2_valueOf cX2_valueOf 2 (some .int), Cond.instanceMethod yX0_latestValue, Cond.selects RX0 yX0_latestValue yX0_latestValue, Cond.code yX0_latestValue cX0_latestValue 3 (some .int), Cond.fieldLink RX0 18 "ParrotLog$Log" "values" "[I", Cond.methodLink RX3 43 yX3_value, Cond.instanceMethod yX3_value, Cond.selects RX3 yX3_value yX3_value, Cond.initialized RX3, Cond.code yX3_value cX3_value 7 (some .int), Cond.methodLink RX3 96 yX2_countOf, Cond.instanceMethod yX2_countOf, Cond.selects RX2 yX2_countOf yX2_countOf, Cond.code yX2_countOf cX2_countOf 2 (some .int), Cond.instanceMethod yX0_countKey, Cond.selects RX0 yX0_countKey yX0_countKey, Cond.code yX0_countKey cX0_countKey 2 (some .int), Cond.methodLink RX0 49 yX0_countEqual, Cond.instanceMethod yX0_countEqual, Cond.selects RX0 yX0_countEqual yX0_countEqual, Cond.code yX0_countEqual cX0_countEqual 5 (some .int)]
def wsX3_isSame_r6 : List Cond := [Cond.methodLink RX3 99 yX2_saidIn, Cond.instanceMethod yX2_saidIn, Cond.selects RX2 yX2_saidIn yX2_saidIn, Cond.code yX2_saidIn cX2_saidIn 2 (some .int), Cond.fieldLink RX2 16 "ParrotLog" "saidInStorm" "[I", Cond.methodLink RX2 67 yX2_checkStorm, Cond.instanceMethod yX2_checkStorm, Cond.selects RX2 yX2_checkStorm yX2_checkStorm, Cond.code yX2_checkStorm cX2_checkStorm 2 none, Cond.methodLink RX3 102 yX2_keptOf, Cond.instanceMethod yX2_keptOf, Cond.selects RX2 yX2_keptOf yX2_keptOf, Cond.code yX2_keptOf cX2_keptOf 2 (some .int), Cond.instanceMethod yX0_countStorm, Cond.selects RX0 yX0_countStorm yX0_countStorm, Cond.code yX0_countStorm cX0_countStorm 2 (some .int), Cond.fieldLink RX0 21 "ParrotLog$Log" "stormNumbers" "[I", Cond.methodLink RX3 105 yX3_lag, Cond.instanceMethod yX3_lag, Cond.selects RX3 yX3_lag yX3_lag, Cond.code yX3_lag cX3_lag 7 (some .int), Cond.methodLink RX3 109 yX2_offsetOf, Cond.instanceMethod yX2_offsetOf, Cond.selects RX2 yX2_offsetOf yX2_offsetOf]
def wsX3_isSame_r7 : List Cond := [Cond.code yX2_offsetOf cX2_offsetOf 2 (some .int), Cond.methodLink RX2 101 yX2_shipNumbered, Cond.instanceMethod yX2_shipNumbered, Cond.selects RX2 yX2_shipNumbered yX2_shipNumbered, Cond.code yX2_shipNumbered cX2_shipNumbered 2 (some (.object "ParrotLog$Ship")), Cond.fieldLink RX2 22 "ParrotLog" "fleet" "[LParrotLog$Ship;", Cond.methodLink RX3 112 yX2_lagOf, Cond.instanceMethod yX2_lagOf, Cond.selects RX2 yX2_lagOf yX2_lagOf, Cond.code yX2_lagOf cX2_lagOf 2 (some .int), Cond.methodLink RX2 161 yX2_lag, Cond.instanceMethod yX2_lag, Cond.selects RX2 yX2_lag yX2_lag, Cond.code yX2_lag cX2_lag 2 (some .int), Cond.methodLink RX3 115 yX2_heardBy, Cond.instanceMethod yX2_heardBy, Cond.selects RX2 yX2_heardBy yX2_heardBy, Cond.code yX2_heardBy cX2_heardBy 2 (some .int), Cond.methodLink RX3 118 yX2_missedBy, Cond.instanceMethod yX2_missedBy, Cond.selects RX2 yX2_missedBy yX2_missedBy, Cond.code yX2_missedBy cX2_missedBy 2 (some .int), Cond.methodLink RX3 121 yX2_errorsOf, Cond.instanceMethod yX2_errorsOf]
def wsX3_isSame_r8 : List Cond := [Cond.selects RX2 yX2_errorsOf yX2_errorsOf, Cond.code yX2_errorsOf cX2_errorsOf 2 (some .int), Cond.methodLink RX2 174 yX2_errorsAfter, Cond.instanceMethod yX2_errorsAfter, Cond.selects RX2 yX2_errorsAfter yX2_errorsAfter, Cond.code yX2_errorsAfter cX2_errorsAfter 9 (some .int), Cond.methodLink RX2 225 Lib.Math.min.name, Cond.static Lib.Math.min.name, Cond.initialized "java/lang/Math", Cond.code Lib.Math.min.name Lib.Math.min.code 2 (some .int), Cond.methodLink RX3 124 yX3_errors, Cond.instanceMethod yX3_errors, Cond.selects RX3 yX3_errors yX3_errors, Cond.code yX3_errors cX3_errors 4 (some .int), Cond.methodLink RX3 127 yX2_knownBy, Cond.instanceMethod yX2_knownBy, Cond.selects RX2 yX2_knownBy yX2_knownBy, Cond.code yX2_knownBy cX2_knownBy 4 (some .int), Cond.methodLink RX3 131 yX2_farthestBehind, Cond.instanceMethod yX2_farthestBehind, Cond.selects RX2 yX2_farthestBehind yX2_farthestBehind, Cond.code yX2_farthestBehind cX2_farthestBehind 5 (some .int), Cond.methodLink RX3 134 yX2_meanLag, Cond.instanceMethod yX2_meanLag]
def wsX3_isSame_r9 : List Cond := [Cond.selects RX2 yX2_meanLag yX2_meanLag, Cond.code yX2_meanLag cX2_meanLag 3 (some .double)]
def wsX3_isSame : List Cond := .code yX3_isSame cX3_isSame 11 (some .boolean) :: ((wsX3_isSame_r1 ++ (wsX3_isSame_r2 ++ (wsX3_isSame_r3 ++ (wsX3_isSame_r4 ++ (wsX3_isSame_r5 ++ (wsX3_isSame_r6 ++ (wsX3_isSame_r7 ++ (wsX3_isSame_r8 ++ wsX3_isSame_r9)))))))) ++ wsX30 ++ wsX20 ++ wsX00 ++ wsX10 ++ (vx_atS RX2 245 "java/lang/IndexOutOfBoundsException" ["java/lang/RuntimeException", "java/lang/Exception"]).filter goodWord)
def wsJ9_min_7cf53 : List Cond := .code yJ9_min_7cf53 cJ9_min_7cf53 2 (some .int) :: ([])
def wsL_below : List Cond := .code yL_below cL_below 2 (some .int) :: ([.constant RL 7 (2147483647)])
def wsL_cell : List Cond := .code yL_cell cL_cell 2 (some .int) :: ([.constant RL 8 (790386105)])
def wsL_act_r1 : List Cond := [Cond.fieldLink RL 9 "ParrotLogLaw$Sim" "ships" "[[I", Cond.fieldLink RL 15 "ParrotLogLaw$Sim" "said" "[I", Cond.arrayClass .int, Cond.fieldLink RL 25 "ParrotLogLaw$Sim" "next" "I", Cond.fieldLink RL 41 "ParrotLogLaw$Sim" "isOn" "Z", Cond.fieldLink RL 52 "ParrotLogLaw$Sim" "log" "[[I", Cond.methodLink RL 19 yL_below, Cond.static yL_below, Cond.initialized RL, Cond.code yL_below cL_below 2 (some .int), Cond.constant RL 7 (2147483647), Cond.methodLink RL 29 yX3_with, Cond.static yX3_with, Cond.initialized RX3, Cond.code yX3_with cX3_with 4 (some (.array (.array .int))), Cond.classLink RX3 7 "[I", Cond.methodLink RL 33 yX2_addShip, Cond.instanceMethod yX2_addShip, Cond.selects RX2 yX2_addShip yX2_addShip, Cond.initialized RX2, Cond.code yX2_addShip cX2_addShip 4 (some .int), Cond.classLink RX2 37 "java/lang/IllegalArgumentException", Cond.initialized "java/lang/IllegalArgumentException", Cond.classLink RX2 54 "java/lang/IllegalStateException"]
def wsL_act_r2 : List Cond := [Cond.initialized "java/lang/IllegalStateException", Cond.fieldLink RX2 90 "ParrotLog" "shipCount" "I", Cond.fieldLink RX2 22 "ParrotLog" "fleet" "[LParrotLog$Ship;", Cond.methodLink RX2 82 yX2_checkReachable, Cond.instanceMethod yX2_checkReachable, Cond.selects RX2 yX2_checkReachable yX2_checkReachable, Cond.code yX2_checkReachable cX2_checkReachable 2 none, Cond.fieldLink RX2 10 "ParrotLog" "log" "LParrotLog$Log;", Cond.methodLink RL 38 yX2_seek, Cond.instanceMethod yX2_seek, Cond.selects RX2 yX2_seek yX2_seek, Cond.code yX2_seek cX2_seek 5 (some .int), Cond.methodLink RX2 101 yX2_shipNumbered, Cond.instanceMethod yX2_shipNumbered, Cond.selects RX2 yX2_shipNumbered yX2_shipNumbered, Cond.code yX2_shipNumbered cX2_shipNumbered 2 (some (.object "ParrotLog$Ship")), Cond.classLink RX2 243 "java/lang/IndexOutOfBoundsException", Cond.initialized "java/lang/IndexOutOfBoundsException", Cond.methodLink RL 45 yX2_startStorm, Cond.instanceMethod yX2_startStorm, Cond.selects RX2 yX2_startStorm yX2_startStorm, Cond.code yX2_startStorm cX2_startStorm 1 (some .int), Cond.fieldLink RX2 50 "ParrotLog" "stormOn" "Z", Cond.fieldLink RX2 59 "ParrotLog" "stormCount" "I"]
def wsL_act_r3 : List Cond := [Cond.methodLink RL 49 yX2_endStorm, Cond.instanceMethod yX2_endStorm, Cond.selects RX2 yX2_endStorm yX2_endStorm, Cond.code yX2_endStorm cX2_endStorm 1 (some .int), Cond.fieldLink RX2 16 "ParrotLog" "saidInStorm" "[I", Cond.methodLink RL 55 yX3_say, Cond.instanceMethod yX3_say, Cond.selects RX3 yX3_say yX3_say, Cond.code yX3_say cX3_say 3 (some .int), Cond.fieldLink RX3 9 "ParrotLogLaw$Sim" "log" "[[I", Cond.fieldLink RX3 29 "ParrotLogLaw$Sim" "next" "I", Cond.fieldLink RX3 32 "ParrotLogLaw$Sim" "isOn" "Z", Cond.fieldLink RX3 15 "ParrotLogLaw$Sim" "said" "[I", Cond.methodLink RX3 25 yX3_dropAt, Cond.instanceMethod yX3_dropAt, Cond.selects RX3 yX3_dropAt yX3_dropAt, Cond.code yX3_dropAt cX3_dropAt 7 none, Cond.fieldLink RX3 18 "ParrotLogLaw$Sim" "ships" "[[I", Cond.fieldLink RX3 21 "ParrotLogLaw$Sim" "dropped" "I", Cond.methodLink RX3 36 yX3_with, Cond.methodLink RL 58 yX2_replay, Cond.instanceMethod yX2_replay, Cond.selects RX2 yX2_replay yX2_replay, Cond.code yX2_replay cX2_replay 4 (some .int)]
def wsL_act_r4 : List Cond := [Cond.fieldLink RX2 27 "ParrotLog" "replayKeys" "[I", Cond.fieldLink RX2 30 "ParrotLog" "replayValues" "[I", Cond.methodLink RX2 67 yX2_checkStorm, Cond.instanceMethod yX2_checkStorm, Cond.selects RX2 yX2_checkStorm yX2_checkStorm, Cond.code yX2_checkStorm cX2_checkStorm 2 none, Cond.instanceMethod yX0_copyStorm, Cond.initialized RX0, Cond.selects RX0 yX0_copyStorm yX0_copyStorm, Cond.code yX0_copyStorm cX0_copyStorm 6 (some .int), Cond.fieldLink RX0 28 "ParrotLog$Log" "size" "I", Cond.fieldLink RX0 21 "ParrotLog$Log" "stormNumbers" "[I", Cond.fieldLink RX0 15 "ParrotLog$Log" "keys" "[I", Cond.fieldLink RX0 18 "ParrotLog$Log" "values" "[I", Cond.methodLink RX2 46 yX2_speak, Cond.instanceMethod yX2_speak, Cond.selects RX2 yX2_speak yX2_speak, Cond.code yX2_speak cX2_speak 4 (some .int), Cond.instanceMethod yX0_markFirst, Cond.selects RX0 yX0_markFirst yX0_markFirst, Cond.code yX0_markFirst cX0_markFirst 2 none, Cond.fieldLink RX0 24 "ParrotLog$Log" "marked" "[Z", Cond.methodLink RX2 78 yX2_dropMarked, Cond.instanceMethod yX2_dropMarked]
def wsL_act_r5 : List Cond := [Cond.selects RX2 yX2_dropMarked yX2_dropMarked, Cond.code yX2_dropMarked cX2_dropMarked 2 (some .int), Cond.instanceMethod yX0_countMarkedFrom, Cond.selects RX0 yX0_countMarkedFrom yX0_countMarkedFrom, Cond.code yX0_countMarkedFrom cX0_countMarkedFrom 4 (some .int), Cond.methodLink RX0 43 yX0_positionFrom, Cond.instanceMethod yX0_positionFrom, Cond.selects RX0 yX0_positionFrom yX0_positionFrom, Cond.code yX0_positionFrom cX0_positionFrom 3 (some .int), Cond.fieldLink RX0 9 "ParrotLog$Log" "offsets" "[I", Cond.instanceMethod yX0_removeMarked, Cond.selects RX0 yX0_removeMarked yX0_removeMarked, Cond.code yX0_removeMarked cX0_removeMarked 3 (some .int), Cond.fieldLink RX0 46 "ParrotLog$Log" "droppedInAll" "I", Cond.instanceMethod yX0_append, Cond.selects RX0 yX0_append yX0_append, Cond.code yX0_append cX0_append 4 (some .int), Cond.fieldLink RX0 32 "ParrotLog$Log" "next" "I", Cond.methodLink RL 62 yX2_compact, Cond.instanceMethod yX2_compact, Cond.selects RX2 yX2_compact yX2_compact, Cond.code yX2_compact cX2_compact 1 (some .int), Cond.methodLink RX2 75 yX2_markCompacted, Cond.instanceMethod yX2_markCompacted]
def wsL_act_r6 : List Cond := [Cond.selects RX2 yX2_markCompacted yX2_markCompacted, Cond.code yX2_markCompacted cX2_markCompacted 1 none, Cond.methodLink RX2 220 yX2_leastShipOffset, Cond.instanceMethod yX2_leastShipOffset, Cond.selects RX2 yX2_leastShipOffset yX2_leastShipOffset, Cond.code yX2_leastShipOffset cX2_leastShipOffset 3 (some .int), Cond.methodLink RX2 225 Lib.Math.min.name, Cond.static Lib.Math.min.name, Cond.initialized "java/lang/Math", Cond.code Lib.Math.min.name Lib.Math.min.code 2 (some .int), Cond.instanceMethod yX0_markCompacted, Cond.selects RX0 yX0_markCompacted yX0_markCompacted, Cond.code yX0_markCompacted cX0_markCompacted 5 none, Cond.methodLink RX0 35 yX0_latestPosition, Cond.instanceMethod yX0_latestPosition, Cond.selects RX0 yX0_latestPosition yX0_latestPosition, Cond.code yX0_latestPosition cX0_latestPosition 5 (some .int), Cond.methodLink RL 65 yX3_compact, Cond.instanceMethod yX3_compact, Cond.selects RX3 yX3_compact yX3_compact, Cond.code yX3_compact cX3_compact 8 (some .int), Cond.methodLink RL 66 yX3_dropAt, Cond.methodLink RL 70 yX2_trimTo, Cond.instanceMethod yX2_trimTo]
def wsL_act_r7 : List Cond := [Cond.selects RX2 yX2_trimTo yX2_trimTo, Cond.code yX2_trimTo cX2_trimTo 2 (some .int), Cond.instanceMethod yX0_markAhead, Cond.selects RX0 yX0_markAhead yX0_markAhead, Cond.code yX0_markAhead cX0_markAhead 3 none, Cond.methodLink RL 73 yX2_passHours, Cond.instanceMethod yX2_passHours, Cond.selects RX2 yX2_passHours yX2_passHours, Cond.code yX2_passHours cX2_passHours 4 (some .int), Cond.fieldLink RX2 115 "ParrotLog" "hour" "I", Cond.methodLink RX2 105 yX2_checkHours, Cond.static yX2_checkHours, Cond.code yX2_checkHours cX2_checkHours 1 none, Cond.methodLink RX2 108 yX2_mostHeard, Cond.instanceMethod yX2_mostHeard, Cond.selects RX2 yX2_mostHeard yX2_mostHeard, Cond.code yX2_mostHeard cX2_mostHeard 3 (some .int), Cond.methodLink RX2 111 yX2_hearNext, Cond.instanceMethod yX2_hearNext, Cond.selects RX2 yX2_hearNext yX2_hearNext, Cond.code yX2_hearNext cX2_hearNext 6 (some .int), Cond.instanceMethod yX1_hear, Cond.initialized RX1, Cond.selects RX1 yX1_hear yX1_hear]
def wsL_act_r8 : List Cond := [Cond.code yX1_hear cX1_hear 4 none, Cond.fieldLink RX1 9 "ParrotLog$Ship" "known" "[I", Cond.fieldLink RX1 15 "ParrotLog$Ship" "offset" "I", Cond.fieldLink RX1 19 "ParrotLog$Ship" "heard" "I", Cond.methodLink RL 76 yX3_pass, Cond.instanceMethod yX3_pass, Cond.selects RX3 yX3_pass yX3_pass, Cond.code yX3_pass cX3_pass 13 (some .int), Cond.fieldLink RX3 40 "ParrotLogLaw$Sim" "hours" "I", Cond.methodLink RL 79 yX2_say, Cond.instanceMethod yX2_say, Cond.selects RX2 yX2_say yX2_say, Cond.code yX2_say cX2_say 3 (some .int), Cond.methodLink RX2 33 yX2_isKey, Cond.static yX2_isKey, Cond.code yX2_isKey cX2_isKey 1 (some .boolean)]
def wsL_act : List Cond := .code yL_act cL_act 17 (some .boolean) :: ((wsL_act_r1 ++ (wsL_act_r2 ++ (wsL_act_r3 ++ (wsL_act_r4 ++ (wsL_act_r5 ++ (wsL_act_r6 ++ (wsL_act_r7 ++ wsL_act_r8))))))) ++ wsX30 ++ wsX20 ++ wsX10 ++ wsX00 ++ (vx_atS RX2 41 "java/lang/IllegalArgumentException" ["java/lang/RuntimeException", "java/lang/Exception"]).filter goodWord ++ (vx_atS RX2 58 "java/lang/IllegalStateException" ["java/lang/RuntimeException", "java/lang/Exception"]).filter goodWord ++ (vx_atS RX2 245 "java/lang/IndexOutOfBoundsException" ["java/lang/RuntimeException", "java/lang/Exception"]).filter goodWord)
def wsL_build_r1 : List Cond := [Cond.classLink RL 10 RX3, Cond.instantiable RX3 7, Cond.initialized RX3, Cond.instanceMethod yX3_init, Cond.code yX3_init cX3_init 1 none, Cond.methodLink RX3 1 objectInit, Cond.instanceMethod objectInit, Cond.code objectInit ⟨#[0xb1]⟩ 1 none, Cond.classLink RX3 7 "[I", Cond.fieldLink RX3 9 "ParrotLogLaw$Sim" "log" "[[I", Cond.arrayClass .int, Cond.fieldLink RX3 15 "ParrotLogLaw$Sim" "said" "[I", Cond.fieldLink RX3 18 "ParrotLogLaw$Sim" "ships" "[[I", Cond.methodLink RL 81 yL_cell, Cond.static yL_cell, Cond.initialized RL, Cond.code yL_cell cL_cell 2 (some .int), Cond.constant RL 8 (790386105), Cond.methodLink RL 19 yL_below, Cond.static yL_below, Cond.code yL_below cL_below 2 (some .int), Cond.constant RL 7 (2147483647), Cond.methodLink RL 85 yL_act, Cond.static yL_act]
def wsL_build_r2 : List Cond := [Cond.code yL_act cL_act 17 (some .boolean), Cond.fieldLink RL 9 "ParrotLogLaw$Sim" "ships" "[[I", Cond.fieldLink RL 15 "ParrotLogLaw$Sim" "said" "[I", Cond.fieldLink RL 25 "ParrotLogLaw$Sim" "next" "I", Cond.fieldLink RL 41 "ParrotLogLaw$Sim" "isOn" "Z", Cond.fieldLink RL 52 "ParrotLogLaw$Sim" "log" "[[I", Cond.methodLink RL 29 yX3_with, Cond.static yX3_with, Cond.code yX3_with cX3_with 4 (some (.array (.array .int))), Cond.methodLink RL 33 yX2_addShip, Cond.instanceMethod yX2_addShip, Cond.selects RX2 yX2_addShip yX2_addShip, Cond.initialized RX2, Cond.code yX2_addShip cX2_addShip 4 (some .int), Cond.classLink RX2 37 "java/lang/IllegalArgumentException", Cond.initialized "java/lang/IllegalArgumentException", Cond.classLink RX2 54 "java/lang/IllegalStateException", Cond.initialized "java/lang/IllegalStateException", Cond.fieldLink RX2 90 "ParrotLog" "shipCount" "I", Cond.fieldLink RX2 22 "ParrotLog" "fleet" "[LParrotLog$Ship;", Cond.methodLink RX2 82 yX2_checkReachable, Cond.instanceMethod yX2_checkReachable, Cond.selects RX2 yX2_checkReachable yX2_checkReachable, Cond.code yX2_checkReachable cX2_checkReachable 2 none]
def wsL_build_r3 : List Cond := [Cond.fieldLink RX2 10 "ParrotLog" "log" "LParrotLog$Log;", Cond.methodLink RL 38 yX2_seek, Cond.instanceMethod yX2_seek, Cond.selects RX2 yX2_seek yX2_seek, Cond.code yX2_seek cX2_seek 5 (some .int), Cond.methodLink RX2 101 yX2_shipNumbered, Cond.instanceMethod yX2_shipNumbered, Cond.selects RX2 yX2_shipNumbered yX2_shipNumbered, Cond.code yX2_shipNumbered cX2_shipNumbered 2 (some (.object "ParrotLog$Ship")), Cond.classLink RX2 243 "java/lang/IndexOutOfBoundsException", Cond.initialized "java/lang/IndexOutOfBoundsException", Cond.methodLink RL 45 yX2_startStorm, Cond.instanceMethod yX2_startStorm, Cond.selects RX2 yX2_startStorm yX2_startStorm, Cond.code yX2_startStorm cX2_startStorm 1 (some .int), Cond.fieldLink RX2 50 "ParrotLog" "stormOn" "Z", Cond.fieldLink RX2 59 "ParrotLog" "stormCount" "I", Cond.methodLink RL 49 yX2_endStorm, Cond.instanceMethod yX2_endStorm, Cond.selects RX2 yX2_endStorm yX2_endStorm, Cond.code yX2_endStorm cX2_endStorm 1 (some .int), Cond.fieldLink RX2 16 "ParrotLog" "saidInStorm" "[I", Cond.methodLink RL 55 yX3_say, Cond.instanceMethod yX3_say]
def wsL_build_r4 : List Cond := [Cond.selects RX3 yX3_say yX3_say, Cond.code yX3_say cX3_say 3 (some .int), Cond.fieldLink RX3 29 "ParrotLogLaw$Sim" "next" "I", Cond.fieldLink RX3 32 "ParrotLogLaw$Sim" "isOn" "Z", Cond.methodLink RX3 25 yX3_dropAt, Cond.instanceMethod yX3_dropAt, Cond.selects RX3 yX3_dropAt yX3_dropAt, Cond.code yX3_dropAt cX3_dropAt 7 none, Cond.fieldLink RX3 21 "ParrotLogLaw$Sim" "dropped" "I", Cond.methodLink RX3 36 yX3_with, Cond.methodLink RL 58 yX2_replay, Cond.instanceMethod yX2_replay, Cond.selects RX2 yX2_replay yX2_replay, Cond.code yX2_replay cX2_replay 4 (some .int), Cond.fieldLink RX2 27 "ParrotLog" "replayKeys" "[I", Cond.fieldLink RX2 30 "ParrotLog" "replayValues" "[I", Cond.methodLink RX2 67 yX2_checkStorm, Cond.instanceMethod yX2_checkStorm, Cond.selects RX2 yX2_checkStorm yX2_checkStorm, Cond.code yX2_checkStorm cX2_checkStorm 2 none, Cond.instanceMethod yX0_copyStorm, Cond.initialized RX0, Cond.selects RX0 yX0_copyStorm yX0_copyStorm, Cond.code yX0_copyStorm cX0_copyStorm 6 (some .int)]
def wsL_build_r5 : List Cond := [Cond.fieldLink RX0 28 "ParrotLog$Log" "size" "I", Cond.fieldLink RX0 21 "ParrotLog$Log" "stormNumbers" "[I", Cond.fieldLink RX0 15 "ParrotLog$Log" "keys" "[I", Cond.fieldLink RX0 18 "ParrotLog$Log" "values" "[I", Cond.methodLink RX2 46 yX2_speak, Cond.instanceMethod yX2_speak, Cond.selects RX2 yX2_speak yX2_speak, Cond.code yX2_speak cX2_speak 4 (some .int), Cond.instanceMethod yX0_markFirst, Cond.selects RX0 yX0_markFirst yX0_markFirst, Cond.code yX0_markFirst cX0_markFirst 2 none, Cond.fieldLink RX0 24 "ParrotLog$Log" "marked" "[Z", Cond.methodLink RX2 78 yX2_dropMarked, Cond.instanceMethod yX2_dropMarked, Cond.selects RX2 yX2_dropMarked yX2_dropMarked, Cond.code yX2_dropMarked cX2_dropMarked 2 (some .int), Cond.instanceMethod yX0_countMarkedFrom, Cond.selects RX0 yX0_countMarkedFrom yX0_countMarkedFrom, Cond.code yX0_countMarkedFrom cX0_countMarkedFrom 4 (some .int), Cond.methodLink RX0 43 yX0_positionFrom, Cond.instanceMethod yX0_positionFrom, Cond.selects RX0 yX0_positionFrom yX0_positionFrom, Cond.code yX0_positionFrom cX0_positionFrom 3 (some .int), Cond.fieldLink RX0 9 "ParrotLog$Log" "offsets" "[I"]
def wsL_build_r6 : List Cond := [Cond.instanceMethod yX0_removeMarked, Cond.selects RX0 yX0_removeMarked yX0_removeMarked, Cond.code yX0_removeMarked cX0_removeMarked 3 (some .int), Cond.fieldLink RX0 46 "ParrotLog$Log" "droppedInAll" "I", Cond.instanceMethod yX0_append, Cond.selects RX0 yX0_append yX0_append, Cond.code yX0_append cX0_append 4 (some .int), Cond.fieldLink RX0 32 "ParrotLog$Log" "next" "I", Cond.methodLink RL 62 yX2_compact, Cond.instanceMethod yX2_compact, Cond.selects RX2 yX2_compact yX2_compact, Cond.code yX2_compact cX2_compact 1 (some .int), Cond.methodLink RX2 75 yX2_markCompacted, Cond.instanceMethod yX2_markCompacted, Cond.selects RX2 yX2_markCompacted yX2_markCompacted, Cond.code yX2_markCompacted cX2_markCompacted 1 none, Cond.methodLink RX2 220 yX2_leastShipOffset, Cond.instanceMethod yX2_leastShipOffset, Cond.selects RX2 yX2_leastShipOffset yX2_leastShipOffset, Cond.code yX2_leastShipOffset cX2_leastShipOffset 3 (some .int), Cond.methodLink RX2 225 Lib.Math.min.name, Cond.static Lib.Math.min.name, Cond.initialized "java/lang/Math", Cond.code Lib.Math.min.name Lib.Math.min.code 2 (some .int)]
def wsL_build_r7 : List Cond := [Cond.instanceMethod yX0_markCompacted, Cond.selects RX0 yX0_markCompacted yX0_markCompacted, Cond.code yX0_markCompacted cX0_markCompacted 5 none, Cond.methodLink RX0 35 yX0_latestPosition, Cond.instanceMethod yX0_latestPosition, Cond.selects RX0 yX0_latestPosition yX0_latestPosition, Cond.code yX0_latestPosition cX0_latestPosition 5 (some .int), Cond.methodLink RL 65 yX3_compact, Cond.instanceMethod yX3_compact, Cond.selects RX3 yX3_compact yX3_compact, Cond.code yX3_compact cX3_compact 8 (some .int), Cond.methodLink RL 66 yX3_dropAt, Cond.methodLink RL 70 yX2_trimTo, Cond.instanceMethod yX2_trimTo, Cond.selects RX2 yX2_trimTo yX2_trimTo, Cond.code yX2_trimTo cX2_trimTo 2 (some .int), Cond.instanceMethod yX0_markAhead, Cond.selects RX0 yX0_markAhead yX0_markAhead, Cond.code yX0_markAhead cX0_markAhead 3 none, Cond.methodLink RL 73 yX2_passHours, Cond.instanceMethod yX2_passHours, Cond.selects RX2 yX2_passHours yX2_passHours, Cond.code yX2_passHours cX2_passHours 4 (some .int), Cond.fieldLink RX2 115 "ParrotLog" "hour" "I"]
def wsL_build_r8 : List Cond := [Cond.methodLink RX2 105 yX2_checkHours, Cond.static yX2_checkHours, Cond.code yX2_checkHours cX2_checkHours 1 none, Cond.methodLink RX2 108 yX2_mostHeard, Cond.instanceMethod yX2_mostHeard, Cond.selects RX2 yX2_mostHeard yX2_mostHeard, Cond.code yX2_mostHeard cX2_mostHeard 3 (some .int), Cond.methodLink RX2 111 yX2_hearNext, Cond.instanceMethod yX2_hearNext, Cond.selects RX2 yX2_hearNext yX2_hearNext, Cond.code yX2_hearNext cX2_hearNext 6 (some .int), Cond.instanceMethod yX1_hear, Cond.initialized RX1, Cond.selects RX1 yX1_hear yX1_hear, Cond.code yX1_hear cX1_hear 4 none, Cond.fieldLink RX1 9 "ParrotLog$Ship" "known" "[I", Cond.fieldLink RX1 15 "ParrotLog$Ship" "offset" "I", Cond.fieldLink RX1 19 "ParrotLog$Ship" "heard" "I", Cond.methodLink RL 76 yX3_pass, Cond.instanceMethod yX3_pass, Cond.selects RX3 yX3_pass yX3_pass, Cond.code yX3_pass cX3_pass 13 (some .int), Cond.fieldLink RX3 40 "ParrotLogLaw$Sim" "hours" "I", Cond.methodLink RL 79 yX2_say]
def wsL_build_r9 : List Cond := [Cond.instanceMethod yX2_say, Cond.selects RX2 yX2_say yX2_say, Cond.code yX2_say cX2_say 3 (some .int), Cond.methodLink RX2 33 yX2_isKey, Cond.static yX2_isKey, Cond.code yX2_isKey cX2_isKey 1 (some .boolean)]
def wsL_build : List Cond := .code yL_build cL_build 5 (some (.object "ParrotLogLaw$Sim")) :: ((wsL_build_r1 ++ (wsL_build_r2 ++ (wsL_build_r3 ++ (wsL_build_r4 ++ (wsL_build_r5 ++ (wsL_build_r6 ++ (wsL_build_r7 ++ (wsL_build_r8 ++ wsL_build_r9)))))))) ++ wsX30 ++ wsX20 ++ wsX10 ++ wsX00 ++ (vx_atS RX2 41 "java/lang/IllegalArgumentException" ["java/lang/RuntimeException", "java/lang/Exception"]).filter goodWord ++ (vx_atS RX2 58 "java/lang/IllegalStateException" ["java/lang/RuntimeException", "java/lang/Exception"]).filter goodWord ++ (vx_atS RX2 245 "java/lang/IndexOutOfBoundsException" ["java/lang/RuntimeException", "java/lang/Exception"]).filter goodWord)
def wsL_law0_r1 : List Cond := [Cond.classLink RL 34 RX2, Cond.instantiable RX2 9, Cond.initialized RX2, Cond.arrayClass .int, Cond.methodLink RL 174 Lib.Math.min.name, Cond.static Lib.Math.min.name, Cond.initialized "java/lang/Math", Cond.code Lib.Math.min.name Lib.Math.min.code 2 (some .int), Cond.methodLink RL 89 yX2_init, Cond.instanceMethod yX2_init, Cond.code yX2_init cX2_init 2 none, Cond.methodLink RX2 1 objectInit, Cond.instanceMethod objectInit, Cond.code objectInit ⟨#[0xb1]⟩ 1 none, Cond.classLink RX2 7 RX0, Cond.instantiable RX0 8, Cond.initialized RX0, Cond.fieldLink RX2 10 "ParrotLog" "log" "LParrotLog$Log;", Cond.fieldLink RX2 16 "ParrotLog" "saidInStorm" "[I", Cond.classLink RX2 20 RX1, Cond.fieldLink RX2 22 "ParrotLog" "fleet" "[LParrotLog$Ship;", Cond.instantiable RX1 5, Cond.initialized RX1, Cond.fieldLink RX2 27 "ParrotLog" "replayKeys" "[I"]
def wsL_law0_r2 : List Cond := [Cond.fieldLink RX2 30 "ParrotLog" "replayValues" "[I", Cond.instanceMethod yX0_init, Cond.code yX0_init cX0_init 1 none, Cond.methodLink RX0 3 objectInit, Cond.fieldLink RX0 9 "ParrotLog$Log" "offsets" "[I", Cond.fieldLink RX0 15 "ParrotLog$Log" "keys" "[I", Cond.fieldLink RX0 18 "ParrotLog$Log" "values" "[I", Cond.fieldLink RX0 21 "ParrotLog$Log" "stormNumbers" "[I", Cond.arrayClass .boolean, Cond.fieldLink RX0 24 "ParrotLog$Log" "marked" "[Z", Cond.instanceMethod yX1_init, Cond.code yX1_init cX1_init 1 none, Cond.methodLink RX1 3 objectInit, Cond.fieldLink RX1 9 "ParrotLog$Ship" "known" "[I", Cond.methodLink RL 90 yL_build, Cond.static yL_build, Cond.initialized RL, Cond.code yL_build cL_build 5 (some (.object "ParrotLogLaw$Sim")), Cond.classLink RL 10 RX3, Cond.instantiable RX3 7, Cond.initialized RX3, Cond.instanceMethod yX3_init, Cond.code yX3_init cX3_init 1 none, Cond.methodLink RX3 1 objectInit]
def wsL_law0_r3 : List Cond := [Cond.classLink RX3 7 "[I", Cond.fieldLink RX3 9 "ParrotLogLaw$Sim" "log" "[[I", Cond.fieldLink RX3 15 "ParrotLogLaw$Sim" "said" "[I", Cond.fieldLink RX3 18 "ParrotLogLaw$Sim" "ships" "[[I", Cond.methodLink RL 81 yL_cell, Cond.static yL_cell, Cond.code yL_cell cL_cell 2 (some .int), Cond.constant RL 8 (790386105), Cond.methodLink RL 19 yL_below, Cond.static yL_below, Cond.code yL_below cL_below 2 (some .int), Cond.constant RL 7 (2147483647), Cond.methodLink RL 85 yL_act, Cond.static yL_act, Cond.code yL_act cL_act 17 (some .boolean), Cond.fieldLink RL 9 "ParrotLogLaw$Sim" "ships" "[[I", Cond.fieldLink RL 15 "ParrotLogLaw$Sim" "said" "[I", Cond.fieldLink RL 25 "ParrotLogLaw$Sim" "next" "I", Cond.fieldLink RL 41 "ParrotLogLaw$Sim" "isOn" "Z", Cond.fieldLink RL 52 "ParrotLogLaw$Sim" "log" "[[I", Cond.methodLink RL 29 yX3_with, Cond.static yX3_with, Cond.code yX3_with cX3_with 4 (some (.array (.array .int))), Cond.methodLink RL 33 yX2_addShip]
def wsL_law0_r4 : List Cond := [Cond.instanceMethod yX2_addShip, Cond.selects RX2 yX2_addShip yX2_addShip, Cond.code yX2_addShip cX2_addShip 4 (some .int), Cond.classLink RX2 37 "java/lang/IllegalArgumentException", Cond.initialized "java/lang/IllegalArgumentException", Cond.classLink RX2 54 "java/lang/IllegalStateException", Cond.initialized "java/lang/IllegalStateException", Cond.fieldLink RX2 90 "ParrotLog" "shipCount" "I", Cond.methodLink RX2 82 yX2_checkReachable, Cond.instanceMethod yX2_checkReachable, Cond.selects RX2 yX2_checkReachable yX2_checkReachable, Cond.code yX2_checkReachable cX2_checkReachable 2 none, Cond.methodLink RL 38 yX2_seek, Cond.instanceMethod yX2_seek, Cond.selects RX2 yX2_seek yX2_seek, Cond.code yX2_seek cX2_seek 5 (some .int), Cond.methodLink RX2 101 yX2_shipNumbered, Cond.instanceMethod yX2_shipNumbered, Cond.selects RX2 yX2_shipNumbered yX2_shipNumbered, Cond.code yX2_shipNumbered cX2_shipNumbered 2 (some (.object "ParrotLog$Ship")), Cond.classLink RX2 243 "java/lang/IndexOutOfBoundsException", Cond.initialized "java/lang/IndexOutOfBoundsException", Cond.methodLink RL 45 yX2_startStorm, Cond.instanceMethod yX2_startStorm]
def wsL_law0_r5 : List Cond := [Cond.selects RX2 yX2_startStorm yX2_startStorm, Cond.code yX2_startStorm cX2_startStorm 1 (some .int), Cond.fieldLink RX2 50 "ParrotLog" "stormOn" "Z", Cond.fieldLink RX2 59 "ParrotLog" "stormCount" "I", Cond.methodLink RL 49 yX2_endStorm, Cond.instanceMethod yX2_endStorm, Cond.selects RX2 yX2_endStorm yX2_endStorm, Cond.code yX2_endStorm cX2_endStorm 1 (some .int), Cond.methodLink RL 55 yX3_say, Cond.instanceMethod yX3_say, Cond.selects RX3 yX3_say yX3_say, Cond.code yX3_say cX3_say 3 (some .int), Cond.fieldLink RX3 29 "ParrotLogLaw$Sim" "next" "I", Cond.fieldLink RX3 32 "ParrotLogLaw$Sim" "isOn" "Z", Cond.methodLink RX3 25 yX3_dropAt, Cond.instanceMethod yX3_dropAt, Cond.selects RX3 yX3_dropAt yX3_dropAt, Cond.code yX3_dropAt cX3_dropAt 7 none, Cond.fieldLink RX3 21 "ParrotLogLaw$Sim" "dropped" "I", Cond.methodLink RX3 36 yX3_with, Cond.methodLink RL 58 yX2_replay, Cond.instanceMethod yX2_replay, Cond.selects RX2 yX2_replay yX2_replay, Cond.code yX2_replay cX2_replay 4 (some .int)]
def wsL_law0_r6 : List Cond := [Cond.methodLink RX2 67 yX2_checkStorm, Cond.instanceMethod yX2_checkStorm, Cond.selects RX2 yX2_checkStorm yX2_checkStorm, Cond.code yX2_checkStorm cX2_checkStorm 2 none, Cond.instanceMethod yX0_copyStorm, Cond.selects RX0 yX0_copyStorm yX0_copyStorm, Cond.code yX0_copyStorm cX0_copyStorm 6 (some .int), Cond.fieldLink RX0 28 "ParrotLog$Log" "size" "I", Cond.methodLink RX2 46 yX2_speak, Cond.instanceMethod yX2_speak, Cond.selects RX2 yX2_speak yX2_speak, Cond.code yX2_speak cX2_speak 4 (some .int), Cond.instanceMethod yX0_markFirst, Cond.selects RX0 yX0_markFirst yX0_markFirst, Cond.code yX0_markFirst cX0_markFirst 2 none, Cond.methodLink RX2 78 yX2_dropMarked, Cond.instanceMethod yX2_dropMarked, Cond.selects RX2 yX2_dropMarked yX2_dropMarked, Cond.code yX2_dropMarked cX2_dropMarked 2 (some .int), Cond.instanceMethod yX0_countMarkedFrom, Cond.selects RX0 yX0_countMarkedFrom yX0_countMarkedFrom, Cond.code yX0_countMarkedFrom cX0_countMarkedFrom 4 (some .int), Cond.methodLink RX0 43 yX0_positionFrom, Cond.instanceMethod yX0_positionFrom]
def wsL_law0_r7 : List Cond := [Cond.selects RX0 yX0_positionFrom yX0_positionFrom, Cond.code yX0_positionFrom cX0_positionFrom 3 (some .int), Cond.instanceMethod yX0_removeMarked, Cond.selects RX0 yX0_removeMarked yX0_removeMarked, Cond.code yX0_removeMarked cX0_removeMarked 3 (some .int), Cond.fieldLink RX0 46 "ParrotLog$Log" "droppedInAll" "I", Cond.instanceMethod yX0_append, Cond.selects RX0 yX0_append yX0_append, Cond.code yX0_append cX0_append 4 (some .int), Cond.fieldLink RX0 32 "ParrotLog$Log" "next" "I", Cond.methodLink RL 62 yX2_compact, Cond.instanceMethod yX2_compact, Cond.selects RX2 yX2_compact yX2_compact, Cond.code yX2_compact cX2_compact 1 (some .int), Cond.methodLink RX2 75 yX2_markCompacted, Cond.instanceMethod yX2_markCompacted, Cond.selects RX2 yX2_markCompacted yX2_markCompacted, Cond.code yX2_markCompacted cX2_markCompacted 1 none, Cond.methodLink RX2 220 yX2_leastShipOffset, Cond.instanceMethod yX2_leastShipOffset, Cond.selects RX2 yX2_leastShipOffset yX2_leastShipOffset, Cond.code yX2_leastShipOffset cX2_leastShipOffset 3 (some .int), Cond.methodLink RX2 225 Lib.Math.min.name, Cond.instanceMethod yX0_markCompacted]
def wsL_law0_r8 : List Cond := [Cond.selects RX0 yX0_markCompacted yX0_markCompacted, Cond.code yX0_markCompacted cX0_markCompacted 5 none, Cond.methodLink RX0 35 yX0_latestPosition, Cond.instanceMethod yX0_latestPosition, Cond.selects RX0 yX0_latestPosition yX0_latestPosition, Cond.code yX0_latestPosition cX0_latestPosition 5 (some .int), Cond.methodLink RL 65 yX3_compact, Cond.instanceMethod yX3_compact, Cond.selects RX3 yX3_compact yX3_compact, Cond.code yX3_compact cX3_compact 8 (some .int), Cond.methodLink RL 66 yX3_dropAt, Cond.methodLink RL 70 yX2_trimTo, Cond.instanceMethod yX2_trimTo, Cond.selects RX2 yX2_trimTo yX2_trimTo, Cond.code yX2_trimTo cX2_trimTo 2 (some .int), Cond.instanceMethod yX0_markAhead, Cond.selects RX0 yX0_markAhead yX0_markAhead, Cond.code yX0_markAhead cX0_markAhead 3 none, Cond.methodLink RL 73 yX2_passHours, Cond.instanceMethod yX2_passHours, Cond.selects RX2 yX2_passHours yX2_passHours, Cond.code yX2_passHours cX2_passHours 4 (some .int), Cond.fieldLink RX2 115 "ParrotLog" "hour" "I", Cond.methodLink RX2 105 yX2_checkHours]
def wsL_law0_r9 : List Cond := [Cond.static yX2_checkHours, Cond.code yX2_checkHours cX2_checkHours 1 none, Cond.methodLink RX2 108 yX2_mostHeard, Cond.instanceMethod yX2_mostHeard, Cond.selects RX2 yX2_mostHeard yX2_mostHeard, Cond.code yX2_mostHeard cX2_mostHeard 3 (some .int), Cond.methodLink RX2 111 yX2_hearNext, Cond.instanceMethod yX2_hearNext, Cond.selects RX2 yX2_hearNext yX2_hearNext, Cond.code yX2_hearNext cX2_hearNext 6 (some .int), Cond.instanceMethod yX1_hear, Cond.selects RX1 yX1_hear yX1_hear, Cond.code yX1_hear cX1_hear 4 none, Cond.fieldLink RX1 15 "ParrotLog$Ship" "offset" "I", Cond.fieldLink RX1 19 "ParrotLog$Ship" "heard" "I", Cond.methodLink RL 76 yX3_pass, Cond.instanceMethod yX3_pass, Cond.selects RX3 yX3_pass yX3_pass, Cond.code yX3_pass cX3_pass 13 (some .int), Cond.fieldLink RX3 40 "ParrotLogLaw$Sim" "hours" "I", Cond.methodLink RL 79 yX2_say, Cond.instanceMethod yX2_say, Cond.selects RX2 yX2_say yX2_say, Cond.code yX2_say cX2_say 3 (some .int)]
def wsL_law0_r10 : List Cond := [Cond.methodLink RX2 33 yX2_isKey, Cond.static yX2_isKey, Cond.code yX2_isKey cX2_isKey 1 (some .boolean), Cond.methodLink RL 94 yX2_phrases, Cond.instanceMethod yX2_phrases, Cond.selects RX2 yX2_phrases yX2_phrases, Cond.code yX2_phrases cX2_phrases 1 (some .int), Cond.methodLink RL 97 yX2_nextOffset, Cond.instanceMethod yX2_nextOffset, Cond.selects RX2 yX2_nextOffset yX2_nextOffset, Cond.code yX2_nextOffset cX2_nextOffset 1 (some .int), Cond.methodLink RL 100 yX2_firstOffset, Cond.instanceMethod yX2_firstOffset, Cond.selects RX2 yX2_firstOffset yX2_firstOffset, Cond.code yX2_firstOffset cX2_firstOffset 1 (some .int), Cond.methodLink RL 103 yX2_ships, Cond.instanceMethod yX2_ships, Cond.selects RX2 yX2_ships yX2_ships, Cond.code yX2_ships cX2_ships 1 (some .int), Cond.methodLink RL 105 yX2_dropped, Cond.instanceMethod yX2_dropped, Cond.selects RX2 yX2_dropped yX2_dropped, Cond.code yX2_dropped cX2_dropped 1 (some .int), Cond.methodLink RL 108 yX2_isKept]
def wsL_law0_r11 : List Cond := [Cond.instanceMethod yX2_isKept, Cond.selects RX2 yX2_isKept yX2_isKept, Cond.code yX2_isKept cX2_isKept 2 (some .boolean), Cond.instanceMethod yX0_positionOf, Cond.selects RX0 yX0_positionOf yX0_positionOf, Cond.code yX0_positionOf cX0_positionOf 3 (some .int), Cond.methodLink RL 112 yX2_latestOf, Cond.instanceMethod yX2_latestOf, Cond.selects RX2 yX2_latestOf yX2_latestOf, Cond.code yX2_latestOf cX2_latestOf 2 (some .int), Cond.methodLink RX2 146 yX2_checkKey, Cond.static yX2_checkKey, Cond.code yX2_checkKey cX2_checkKey 1 none, Cond.instanceMethod yX0_latestOffset, Cond.selects RX0 yX0_latestOffset yX0_latestOffset, Cond.code yX0_latestOffset cX0_latestOffset 3 (some .int), Cond.methodLink RL 115 yX2_countOf, Cond.instanceMethod yX2_countOf, Cond.selects RX2 yX2_countOf yX2_countOf, Cond.code yX2_countOf cX2_countOf 2 (some .int), Cond.instanceMethod yX0_countKey, Cond.selects RX0 yX0_countKey yX0_countKey, Cond.code yX0_countKey cX0_countKey 2 (some .int), Cond.methodLink RX0 49 yX0_countEqual]
def wsL_law0_r12 : List Cond := [Cond.instanceMethod yX0_countEqual, Cond.selects RX0 yX0_countEqual yX0_countEqual, Cond.code yX0_countEqual cX0_countEqual 5 (some .int), Cond.methodLink RL 118 yX2_keyAt, Cond.instanceMethod yX2_keyAt, Cond.selects RX2 yX2_keyAt yX2_keyAt, Cond.code yX2_keyAt cX2_keyAt 2 (some .int), Cond.methodLink RX2 137 yX2_keptPosition, Cond.instanceMethod yX2_keptPosition, Cond.selects RX2 yX2_keptPosition yX2_keptPosition, Cond.code yX2_keptPosition cX2_keptPosition 3 (some .int), Cond.methodLink RL 121 yX2_valueAt, Cond.instanceMethod yX2_valueAt, Cond.selects RX2 yX2_valueAt yX2_valueAt, Cond.code yX2_valueAt cX2_valueAt 2 (some .int), Cond.methodLink RL 124 yX2_valueOf, Cond.instanceMethod yX2_valueOf, Cond.selects RX2 yX2_valueOf yX2_valueOf, Cond.code yX2_valueOf cX2_valueOf 2 (some .int), Cond.instanceMethod yX0_latestValue, Cond.selects RX0 yX0_latestValue yX0_latestValue, Cond.code yX0_latestValue cX0_latestValue 3 (some .int), Cond.methodLink RL 127 yX2_stormAt, Cond.instanceMethod yX2_stormAt]
def wsL_law0_r13 : List Cond := [Cond.selects RX2 yX2_stormAt yX2_stormAt, Cond.code yX2_stormAt cX2_stormAt 2 (some .int), Cond.methodLink RL 130 yX2_storms, Cond.instanceMethod yX2_storms, Cond.selects RX2 yX2_storms yX2_storms, Cond.code yX2_storms cX2_storms 1 (some .int), Cond.methodLink RL 133 yX2_wouldCompact, Cond.instanceMethod yX2_wouldCompact, Cond.selects RX2 yX2_wouldCompact yX2_wouldCompact, Cond.code yX2_wouldCompact cX2_wouldCompact 1 (some .int), Cond.instanceMethod yX0_countMarked, Cond.selects RX0 yX0_countMarked yX0_countMarked, Cond.code yX0_countMarked cX0_countMarked 1 (some .int), Cond.methodLink RX0 39 yX0_countMarkedFrom, Cond.methodLink RL 136 yX2_keptOf, Cond.instanceMethod yX2_keptOf, Cond.selects RX2 yX2_keptOf yX2_keptOf, Cond.code yX2_keptOf cX2_keptOf 2 (some .int), Cond.instanceMethod yX0_countStorm, Cond.selects RX0 yX0_countStorm yX0_countStorm, Cond.code yX0_countStorm cX0_countStorm 2 (some .int), Cond.methodLink RL 139 yX2_saidIn, Cond.instanceMethod yX2_saidIn, Cond.selects RX2 yX2_saidIn yX2_saidIn]
def wsL_law0_r14 : List Cond := [Cond.code yX2_saidIn cX2_saidIn 2 (some .int), Cond.methodLink RL 142 yX2_heardBy, Cond.instanceMethod yX2_heardBy, Cond.selects RX2 yX2_heardBy yX2_heardBy, Cond.code yX2_heardBy cX2_heardBy 2 (some .int), Cond.methodLink RL 145 yX2_missedBy, Cond.instanceMethod yX2_missedBy, Cond.selects RX2 yX2_missedBy yX2_missedBy, Cond.code yX2_missedBy cX2_missedBy 2 (some .int), Cond.methodLink RL 148 yX2_lagOf, Cond.instanceMethod yX2_lagOf, Cond.selects RX2 yX2_lagOf yX2_lagOf, Cond.code yX2_lagOf cX2_lagOf 2 (some .int), Cond.methodLink RX2 161 yX2_lag, Cond.instanceMethod yX2_lag, Cond.selects RX2 yX2_lag yX2_lag, Cond.code yX2_lag cX2_lag 2 (some .int), Cond.methodLink RL 151 yX2_offsetOf, Cond.instanceMethod yX2_offsetOf, Cond.selects RX2 yX2_offsetOf yX2_offsetOf, Cond.code yX2_offsetOf cX2_offsetOf 2 (some .int), Cond.methodLink RL 154 yX2_errorsOf, Cond.instanceMethod yX2_errorsOf, Cond.selects RX2 yX2_errorsOf yX2_errorsOf]
def wsL_law0_r15 : List Cond := [Cond.code yX2_errorsOf cX2_errorsOf 2 (some .int), Cond.methodLink RX2 174 yX2_errorsAfter, Cond.instanceMethod yX2_errorsAfter, Cond.selects RX2 yX2_errorsAfter yX2_errorsAfter, Cond.code yX2_errorsAfter cX2_errorsAfter 9 (some .int), Cond.methodLink RL 157 yX2_farthestBehind, Cond.instanceMethod yX2_farthestBehind, Cond.selects RX2 yX2_farthestBehind yX2_farthestBehind, Cond.code yX2_farthestBehind cX2_farthestBehind 5 (some .int), Cond.methodLink RL 160 yX2_wouldMiss, Cond.instanceMethod yX2_wouldMiss, Cond.selects RX2 yX2_wouldMiss yX2_wouldMiss, Cond.code yX2_wouldMiss cX2_wouldMiss 3 (some .int), Cond.methodLink RL 163 yX2_meanLag, Cond.instanceMethod yX2_meanLag, Cond.selects RX2 yX2_meanLag yX2_meanLag, Cond.code yX2_meanLag cX2_meanLag 3 (some .double), Cond.methodLink RL 167 yX2_hours, Cond.instanceMethod yX2_hours, Cond.selects RX2 yX2_hours yX2_hours, Cond.code yX2_hours cX2_hours 1 (some .int), Cond.methodLink RL 170 yX2_isStormy, Cond.instanceMethod yX2_isStormy, Cond.selects RX2 yX2_isStormy yX2_isStormy]
def wsL_law0_r16 : List Cond := [Cond.code yX2_isStormy cX2_isStormy 1 (some .boolean), Cond.methodLink RL 179 yX3_isSame, Cond.instanceMethod yX3_isSame, Cond.selects RX3 yX3_isSame yX3_isSame, Cond.code yX3_isSame cX3_isSame 11 (some .boolean), Cond.methodLink RX3 52 yX2_hours, Cond.methodLink RX3 57 yX2_phrases, Cond.methodLink RX3 60 yX2_nextOffset, Cond.methodLink RX3 63 yX2_firstOffset, Cond.methodLink RX3 66 yX2_dropped, Cond.methodLink RX3 68 yX2_isStormy, Cond.methodLink RX3 72 yX2_storms, Cond.methodLink RX3 75 yX2_ships, Cond.methodLink RX3 77 yX2_isKept, Cond.methodLink RX3 81 yX2_keyAt, Cond.methodLink RX3 84 yX2_valueAt, Cond.methodLink RX3 87 yX2_stormAt, Cond.methodLink RX3 90 yX2_latestOf, Cond.methodLink RX3 93 yX2_valueOf, Cond.methodLink RX3 43 yX3_value, Cond.instanceMethod yX3_value, Cond.selects RX3 yX3_value yX3_value, Cond.code yX3_value cX3_value 7 (some .int), Cond.methodLink RX3 96 yX2_countOf]
def wsL_law0_r17 : List Cond := [Cond.methodLink RX3 99 yX2_saidIn, Cond.methodLink RX3 102 yX2_keptOf, Cond.methodLink RX3 105 yX3_lag, Cond.instanceMethod yX3_lag, Cond.selects RX3 yX3_lag yX3_lag, Cond.code yX3_lag cX3_lag 7 (some .int), Cond.methodLink RX3 109 yX2_offsetOf, Cond.methodLink RX3 112 yX2_lagOf, Cond.methodLink RX3 115 yX2_heardBy, Cond.methodLink RX3 118 yX2_missedBy, Cond.methodLink RX3 121 yX2_errorsOf, Cond.methodLink RX3 124 yX3_errors, Cond.instanceMethod yX3_errors, Cond.selects RX3 yX3_errors yX3_errors, Cond.code yX3_errors cX3_errors 4 (some .int), Cond.methodLink RX3 127 yX2_knownBy, Cond.instanceMethod yX2_knownBy, Cond.selects RX2 yX2_knownBy yX2_knownBy, Cond.code yX2_knownBy cX2_knownBy 4 (some .int), Cond.methodLink RX3 131 yX2_farthestBehind, Cond.methodLink RX3 134 yX2_meanLag]
def wsL_law0 : List Cond := (wsL_law0_r1 ++ (wsL_law0_r2 ++ (wsL_law0_r3 ++ (wsL_law0_r4 ++ (wsL_law0_r5 ++ (wsL_law0_r6 ++ (wsL_law0_r7 ++ (wsL_law0_r8 ++ (wsL_law0_r9 ++ (wsL_law0_r10 ++ (wsL_law0_r11 ++ (wsL_law0_r12 ++ (wsL_law0_r13 ++ (wsL_law0_r14 ++ (wsL_law0_r15 ++ (wsL_law0_r16 ++ wsL_law0_r17)))))))))))))))) ++ wsX20 ++ wsX00 ++ wsX10 ++ wsX30 ++ ([] : List Cond)
def wsL_law : List Cond := wsL_law0 ++ (vx_atS RX2 41 "java/lang/IllegalArgumentException" ["java/lang/RuntimeException", "java/lang/Exception"]).filter goodWord ++ (vx_atS RX2 58 "java/lang/IllegalStateException" ["java/lang/RuntimeException", "java/lang/Exception"]).filter goodWord ++ (vx_atS RX2 245 "java/lang/IndexOutOfBoundsException" ["java/lang/RuntimeException", "java/lang/Exception"]).filter goodWord
abbrev vwCl : List vw_C := [(RX0, TX0, 8), (RX1, TX1, 5), (RX2, TX2, 9), (RX3, TX3, 7)]
end
section
theorem goodIn_q {big ws cs : List Cond} (hp : ws.filter k2_isCode = cs) (hc : ∀ w ∈ cs, w ∈ big) (h : (ws.filter (fun w => !k2_isCode w)).all (fun w => decide (w ∈ big)) = true) : ∀ w ∈ ws, w ∈ big := by
  intro w hw
  by_cases hk : k2_isCode w = true
  · exact hc w (hp ▸ List.mem_filter.mpr ⟨hw, hk⟩)
  · exact of_decide_eq_true (List.all_eq_true.mp h w (List.mem_filter.mpr ⟨hw, by simpa using hk⟩))
set_option maxRecDepth 100000 in
theorem wsL_law0_r1_in : ∀ w ∈ wsL_law0_r1, w ∈ lw_tbl := goodIn_q (cs := [Cond.code Lib.Math.min.name Lib.Math.min.code 2 (some .int), Cond.code yX2_init cX2_init 2 none, Cond.code objectInit ⟨#[0xb1]⟩ 1 none]) (by rfl) (List.forall_mem_cons.mpr ⟨List.mem_of_getElem? (i := 267) (by rfl), List.forall_mem_cons.mpr ⟨List.mem_of_getElem? (i := 46) (by rfl), List.forall_mem_cons.mpr ⟨List.mem_of_getElem? (i := 49) (by rfl), fun w hw => absurd hw List.not_mem_nil⟩⟩⟩) (by decide +kernel)
set_option maxRecDepth 100000 in
theorem wsL_law0_r2_in : ∀ w ∈ wsL_law0_r2, w ∈ lw_tbl := goodIn_q (cs := [Cond.code yX0_init cX0_init 1 none, Cond.code yX1_init cX1_init 1 none, Cond.code yL_build cL_build 5 (some (.object "ParrotLogLaw$Sim")), Cond.code yX3_init cX3_init 1 none]) (by rfl) (List.forall_mem_cons.mpr ⟨List.mem_of_getElem? (i := 54) (by rfl), List.forall_mem_cons.mpr ⟨List.mem_of_getElem? (i := 95) (by rfl), List.forall_mem_cons.mpr ⟨List.mem_of_getElem? (i := 604) (by rfl), List.forall_mem_cons.mpr ⟨List.mem_of_getElem? (i := 609) (by rfl), fun w hw => absurd hw List.not_mem_nil⟩⟩⟩⟩) (by decide +kernel)
set_option maxRecDepth 100000 in
theorem wsL_law0_r3_in : ∀ w ∈ wsL_law0_r3, w ∈ lw_tbl := goodIn_q (cs := [Cond.code yL_cell cL_cell 2 (some .int), Cond.code yL_below cL_below 2 (some .int), Cond.code yL_act cL_act 17 (some .boolean), Cond.code yX3_with cX3_with 4 (some (.array (.array .int)))]) (by rfl) (List.forall_mem_cons.mpr ⟨List.mem_of_getElem? (i := 530) (by rfl), List.forall_mem_cons.mpr ⟨List.mem_of_getElem? (i := 526) (by rfl), List.forall_mem_cons.mpr ⟨List.mem_of_getElem? (i := 534) (by rfl), List.forall_mem_cons.mpr ⟨List.mem_of_getElem? (i := 475) (by rfl), fun w hw => absurd hw List.not_mem_nil⟩⟩⟩⟩) (by decide +kernel)
set_option maxRecDepth 100000 in
theorem wsL_law0_r4_in : ∀ w ∈ wsL_law0_r4, w ∈ lw_tbl := goodIn_q (cs := [Cond.code yX2_addShip cX2_addShip 4 (some .int), Cond.code yX2_checkReachable cX2_checkReachable 2 none, Cond.code yX2_seek cX2_seek 5 (some .int), Cond.code yX2_shipNumbered cX2_shipNumbered 2 (some (.object "ParrotLog$Ship"))]) (by rfl) (List.forall_mem_cons.mpr ⟨List.mem_of_getElem? (i := 539) (by rfl), List.forall_mem_cons.mpr ⟨List.mem_of_getElem? (i := 544) (by rfl), List.forall_mem_cons.mpr ⟨List.mem_of_getElem? (i := 565) (by rfl), List.forall_mem_cons.mpr ⟨List.mem_of_getElem? (i := 403) (by rfl), fun w hw => absurd hw List.not_mem_nil⟩⟩⟩⟩) (by decide +kernel)
set_option maxRecDepth 100000 in
theorem wsL_law0_r5_in : ∀ w ∈ wsL_law0_r5, w ∈ lw_tbl := goodIn_q (cs := [Cond.code yX2_startStorm cX2_startStorm 1 (some .int), Cond.code yX2_endStorm cX2_endStorm 1 (some .int), Cond.code yX3_say cX3_say 3 (some .int), Cond.code yX3_dropAt cX3_dropAt 7 none, Cond.code yX2_replay cX2_replay 4 (some .int)]) (by rfl) (List.forall_mem_cons.mpr ⟨List.mem_of_getElem? (i := 569) (by rfl), List.forall_mem_cons.mpr ⟨List.mem_of_getElem? (i := 575) (by rfl), List.forall_mem_cons.mpr ⟨List.mem_of_getElem? (i := 466) (by rfl), List.forall_mem_cons.mpr ⟨List.mem_of_getElem? (i := 470) (by rfl), List.forall_mem_cons.mpr ⟨List.mem_of_getElem? (i := 580) (by rfl), fun w hw => absurd hw List.not_mem_nil⟩⟩⟩⟩⟩) (by decide +kernel)
set_option maxRecDepth 100000 in
theorem wsL_law0_r6_in : ∀ w ∈ wsL_law0_r6, w ∈ lw_tbl := goodIn_q (cs := [Cond.code yX2_checkStorm cX2_checkStorm 2 none, Cond.code yX0_copyStorm cX0_copyStorm 6 (some .int), Cond.code yX2_speak cX2_speak 4 (some .int), Cond.code yX0_markFirst cX0_markFirst 2 none, Cond.code yX2_dropMarked cX2_dropMarked 2 (some .int), Cond.code yX0_countMarkedFrom cX0_countMarkedFrom 4 (some .int)]) (by rfl) (List.forall_mem_cons.mpr ⟨List.mem_of_getElem? (i := 382) (by rfl), List.forall_mem_cons.mpr ⟨List.mem_of_getElem? (i := 584) (by rfl), List.forall_mem_cons.mpr ⟨List.mem_of_getElem? (i := 223) (by rfl), List.forall_mem_cons.mpr ⟨List.mem_of_getElem? (i := 227) (by rfl), List.forall_mem_cons.mpr ⟨List.mem_of_getElem? (i := 231) (by rfl), List.forall_mem_cons.mpr ⟨List.mem_of_getElem? (i := 235) (by rfl), fun w hw => absurd hw List.not_mem_nil⟩⟩⟩⟩⟩⟩) (by decide +kernel)
set_option maxRecDepth 100000 in
theorem wsL_law0_r7_in : ∀ w ∈ wsL_law0_r7, w ∈ lw_tbl := goodIn_q (cs := [Cond.code yX0_positionFrom cX0_positionFrom 3 (some .int), Cond.code yX0_removeMarked cX0_removeMarked 3 (some .int), Cond.code yX0_append cX0_append 4 (some .int), Cond.code yX2_compact cX2_compact 1 (some .int), Cond.code yX2_markCompacted cX2_markCompacted 1 none, Cond.code yX2_leastShipOffset cX2_leastShipOffset 3 (some .int)]) (by rfl) (List.forall_mem_cons.mpr ⟨List.mem_of_getElem? (i := 239) (by rfl), List.forall_mem_cons.mpr ⟨List.mem_of_getElem? (i := 243) (by rfl), List.forall_mem_cons.mpr ⟨List.mem_of_getElem? (i := 247) (by rfl), List.forall_mem_cons.mpr ⟨List.mem_of_getElem? (i := 588) (by rfl), List.forall_mem_cons.mpr ⟨List.mem_of_getElem? (i := 441) (by rfl), List.forall_mem_cons.mpr ⟨List.mem_of_getElem? (i := 445) (by rfl), fun w hw => absurd hw List.not_mem_nil⟩⟩⟩⟩⟩⟩) (by decide +kernel)
set_option maxRecDepth 100000 in
theorem wsL_law0_r8_in : ∀ w ∈ wsL_law0_r8, w ∈ lw_tbl := goodIn_q (cs := [Cond.code yX0_markCompacted cX0_markCompacted 5 none, Cond.code yX0_latestPosition cX0_latestPosition 5 (some .int), Cond.code yX3_compact cX3_compact 8 (some .int), Cond.code yX2_trimTo cX2_trimTo 2 (some .int), Cond.code yX0_markAhead cX0_markAhead 3 none, Cond.code yX2_passHours cX2_passHours 4 (some .int)]) (by rfl) (List.forall_mem_cons.mpr ⟨List.mem_of_getElem? (i := 449) (by rfl), List.forall_mem_cons.mpr ⟨List.mem_of_getElem? (i := 346) (by rfl), List.forall_mem_cons.mpr ⟨List.mem_of_getElem? (i := 592) (by rfl), List.forall_mem_cons.mpr ⟨List.mem_of_getElem? (i := 597) (by rfl), List.forall_mem_cons.mpr ⟨List.mem_of_getElem? (i := 601) (by rfl), List.forall_mem_cons.mpr ⟨List.mem_of_getElem? (i := 251) (by rfl), fun w hw => absurd hw List.not_mem_nil⟩⟩⟩⟩⟩⟩) (by decide +kernel)
set_option maxRecDepth 100000 in
theorem wsL_law0_r9_in : ∀ w ∈ wsL_law0_r9, w ∈ lw_tbl := goodIn_q (cs := [Cond.code yX2_checkHours cX2_checkHours 1 none, Cond.code yX2_mostHeard cX2_mostHeard 3 (some .int), Cond.code yX2_hearNext cX2_hearNext 6 (some .int), Cond.code yX1_hear cX1_hear 4 none, Cond.code yX3_pass cX3_pass 13 (some .int), Cond.code yX2_say cX2_say 3 (some .int)]) (by rfl) (List.forall_mem_cons.mpr ⟨List.mem_of_getElem? (i := 254) (by rfl), List.forall_mem_cons.mpr ⟨List.mem_of_getElem? (i := 259) (by rfl), List.forall_mem_cons.mpr ⟨List.mem_of_getElem? (i := 263) (by rfl), List.forall_mem_cons.mpr ⟨List.mem_of_getElem? (i := 271) (by rfl), List.forall_mem_cons.mpr ⟨List.mem_of_getElem? (i := 479) (by rfl), List.forall_mem_cons.mpr ⟨List.mem_of_getElem? (i := 147) (by rfl), fun w hw => absurd hw List.not_mem_nil⟩⟩⟩⟩⟩⟩) (by decide +kernel)
end
section
set_option maxRecDepth 100000 in
theorem wsL_law0_r10_in : ∀ w ∈ wsL_law0_r10, w ∈ lw_tbl := goodIn_q (cs := [Cond.code yX2_isKey cX2_isKey 1 (some .boolean), Cond.code yX2_phrases cX2_phrases 1 (some .int), Cond.code yX2_nextOffset cX2_nextOffset 1 (some .int), Cond.code yX2_firstOffset cX2_firstOffset 1 (some .int), Cond.code yX2_ships cX2_ships 1 (some .int), Cond.code yX2_dropped cX2_dropped 1 (some .int)]) (by rfl) (List.forall_mem_cons.mpr ⟨List.mem_of_getElem? (i := 150) (by rfl), List.forall_mem_cons.mpr ⟨List.mem_of_getElem? (i := 279) (by rfl), List.forall_mem_cons.mpr ⟨List.mem_of_getElem? (i := 283) (by rfl), List.forall_mem_cons.mpr ⟨List.mem_of_getElem? (i := 287) (by rfl), List.forall_mem_cons.mpr ⟨List.mem_of_getElem? (i := 395) (by rfl), List.forall_mem_cons.mpr ⟨List.mem_of_getElem? (i := 291) (by rfl), fun w hw => absurd hw List.not_mem_nil⟩⟩⟩⟩⟩⟩) (by decide +kernel)
set_option maxRecDepth 100000 in
theorem wsL_law0_r11_in : ∀ w ∈ wsL_law0_r11, w ∈ lw_tbl := goodIn_q (cs := [Cond.code yX2_isKept cX2_isKept 2 (some .boolean), Cond.code yX0_positionOf cX0_positionOf 3 (some .int), Cond.code yX2_latestOf cX2_latestOf 2 (some .int), Cond.code yX2_checkKey cX2_checkKey 1 none, Cond.code yX0_latestOffset cX0_latestOffset 3 (some .int), Cond.code yX2_countOf cX2_countOf 2 (some .int), Cond.code yX0_countKey cX0_countKey 2 (some .int)]) (by rfl) (List.forall_mem_cons.mpr ⟨List.mem_of_getElem? (i := 295) (by rfl), List.forall_mem_cons.mpr ⟨List.mem_of_getElem? (i := 299) (by rfl), List.forall_mem_cons.mpr ⟨List.mem_of_getElem? (i := 335) (by rfl), List.forall_mem_cons.mpr ⟨List.mem_of_getElem? (i := 338) (by rfl), List.forall_mem_cons.mpr ⟨List.mem_of_getElem? (i := 342) (by rfl), List.forall_mem_cons.mpr ⟨List.mem_of_getElem? (i := 358) (by rfl), List.forall_mem_cons.mpr ⟨List.mem_of_getElem? (i := 362) (by rfl), fun w hw => absurd hw List.not_mem_nil⟩⟩⟩⟩⟩⟩⟩) (by decide +kernel)
set_option maxRecDepth 100000 in
theorem wsL_law0_r12_in : ∀ w ∈ wsL_law0_r12, w ∈ lw_tbl := goodIn_q (cs := [Cond.code yX0_countEqual cX0_countEqual 5 (some .int), Cond.code yX2_keyAt cX2_keyAt 2 (some .int), Cond.code yX2_keptPosition cX2_keptPosition 3 (some .int), Cond.code yX2_valueAt cX2_valueAt 2 (some .int), Cond.code yX2_valueOf cX2_valueOf 2 (some .int), Cond.code yX0_latestValue cX0_latestValue 3 (some .int)]) (by rfl) (List.forall_mem_cons.mpr ⟨List.mem_of_getElem? (i := 366) (by rfl), List.forall_mem_cons.mpr ⟨List.mem_of_getElem? (i := 303) (by rfl), List.forall_mem_cons.mpr ⟨List.mem_of_getElem? (i := 307) (by rfl), List.forall_mem_cons.mpr ⟨List.mem_of_getElem? (i := 327) (by rfl), List.forall_mem_cons.mpr ⟨List.mem_of_getElem? (i := 350) (by rfl), List.forall_mem_cons.mpr ⟨List.mem_of_getElem? (i := 354) (by rfl), fun w hw => absurd hw List.not_mem_nil⟩⟩⟩⟩⟩⟩) (by decide +kernel)
set_option maxRecDepth 100000 in
theorem wsL_law0_r13_in : ∀ w ∈ wsL_law0_r13, w ∈ lw_tbl := goodIn_q (cs := [Cond.code yX2_stormAt cX2_stormAt 2 (some .int), Cond.code yX2_storms cX2_storms 1 (some .int), Cond.code yX2_wouldCompact cX2_wouldCompact 1 (some .int), Cond.code yX0_countMarked cX0_countMarked 1 (some .int), Cond.code yX2_keptOf cX2_keptOf 2 (some .int), Cond.code yX0_countStorm cX0_countStorm 2 (some .int)]) (by rfl) (List.forall_mem_cons.mpr ⟨List.mem_of_getElem? (i := 331) (by rfl), List.forall_mem_cons.mpr ⟨List.mem_of_getElem? (i := 370) (by rfl), List.forall_mem_cons.mpr ⟨List.mem_of_getElem? (i := 437) (by rfl), List.forall_mem_cons.mpr ⟨List.mem_of_getElem? (i := 453) (by rfl), List.forall_mem_cons.mpr ⟨List.mem_of_getElem? (i := 387) (by rfl), List.forall_mem_cons.mpr ⟨List.mem_of_getElem? (i := 391) (by rfl), fun w hw => absurd hw List.not_mem_nil⟩⟩⟩⟩⟩⟩) (by decide +kernel)
set_option maxRecDepth 100000 in
theorem wsL_law0_r14_in : ∀ w ∈ wsL_law0_r14, w ∈ lw_tbl := goodIn_q (cs := [Cond.code yX2_saidIn cX2_saidIn 2 (some .int), Cond.code yX2_heardBy cX2_heardBy 2 (some .int), Cond.code yX2_missedBy cX2_missedBy 2 (some .int), Cond.code yX2_lagOf cX2_lagOf 2 (some .int), Cond.code yX2_lag cX2_lag 2 (some .int), Cond.code yX2_offsetOf cX2_offsetOf 2 (some .int)]) (by rfl) (List.forall_mem_cons.mpr ⟨List.mem_of_getElem? (i := 378) (by rfl), List.forall_mem_cons.mpr ⟨List.mem_of_getElem? (i := 416) (by rfl), List.forall_mem_cons.mpr ⟨List.mem_of_getElem? (i := 420) (by rfl), List.forall_mem_cons.mpr ⟨List.mem_of_getElem? (i := 408) (by rfl), List.forall_mem_cons.mpr ⟨List.mem_of_getElem? (i := 412) (by rfl), List.forall_mem_cons.mpr ⟨List.mem_of_getElem? (i := 399) (by rfl), fun w hw => absurd hw List.not_mem_nil⟩⟩⟩⟩⟩⟩) (by decide +kernel)
set_option maxRecDepth 100000 in
theorem wsL_law0_r15_in : ∀ w ∈ wsL_law0_r15, w ∈ lw_tbl := goodIn_q (cs := [Cond.code yX2_errorsOf cX2_errorsOf 2 (some .int), Cond.code yX2_errorsAfter cX2_errorsAfter 9 (some .int), Cond.code yX2_farthestBehind cX2_farthestBehind 5 (some .int), Cond.code yX2_wouldMiss cX2_wouldMiss 3 (some .int), Cond.code yX2_meanLag cX2_meanLag 3 (some .double), Cond.code yX2_hours cX2_hours 1 (some .int)]) (by rfl) (List.forall_mem_cons.mpr ⟨List.mem_of_getElem? (i := 424) (by rfl), List.forall_mem_cons.mpr ⟨List.mem_of_getElem? (i := 428) (by rfl), List.forall_mem_cons.mpr ⟨List.mem_of_getElem? (i := 433) (by rfl), List.forall_mem_cons.mpr ⟨List.mem_of_getElem? (i := 458) (by rfl), List.forall_mem_cons.mpr ⟨List.mem_of_getElem? (i := 462) (by rfl), List.forall_mem_cons.mpr ⟨List.mem_of_getElem? (i := 275) (by rfl), fun w hw => absurd hw List.not_mem_nil⟩⟩⟩⟩⟩⟩) (by decide +kernel)
set_option maxRecDepth 100000 in
theorem wsL_law0_r16_in : ∀ w ∈ wsL_law0_r16, w ∈ lw_tbl := goodIn_q (cs := [Cond.code yX2_isStormy cX2_isStormy 1 (some .boolean), Cond.code yX3_isSame cX3_isSame 11 (some .boolean), Cond.code yX3_value cX3_value 7 (some .int)]) (by rfl) (List.forall_mem_cons.mpr ⟨List.mem_of_getElem? (i := 374) (by rfl), List.forall_mem_cons.mpr ⟨List.mem_of_getElem? (i := 483) (by rfl), List.forall_mem_cons.mpr ⟨List.mem_of_getElem? (i := 501) (by rfl), fun w hw => absurd hw List.not_mem_nil⟩⟩⟩) (by decide +kernel)
set_option maxRecDepth 100000 in
theorem wsL_law0_r17_in : ∀ w ∈ wsL_law0_r17, w ∈ lw_tbl := goodIn_q (cs := [Cond.code yX3_lag cX3_lag 7 (some .int), Cond.code yX3_errors cX3_errors 4 (some .int), Cond.code yX2_knownBy cX2_knownBy 4 (some .int)]) (by rfl) (List.forall_mem_cons.mpr ⟨List.mem_of_getElem? (i := 508) (by rfl), List.forall_mem_cons.mpr ⟨List.mem_of_getElem? (i := 517) (by rfl), List.forall_mem_cons.mpr ⟨List.mem_of_getElem? (i := 521) (by rfl), fun w hw => absurd hw List.not_mem_nil⟩⟩⟩) (by decide +kernel)
end
section
theorem wsX20_i9 : ∀ w ∈ wsX20, w ∈ lw_tbl := by decide +kernel
theorem wsX00_i9 : ∀ w ∈ wsX00, w ∈ lw_tbl := by decide +kernel
theorem wsX10_i9 : ∀ w ∈ wsX10, w ∈ lw_tbl := by decide +kernel
theorem wsX30_i9 : ∀ w ∈ wsX30, w ∈ lw_tbl := by decide +kernel
theorem wsL_law_in0 : ∀ w ∈ wsL_law0, w ∈ lw_tbl := by
  intro w h
  unfold wsL_law0 at h
  rcases List.mem_append.mp h with h | h
  case inr => exact absurd h List.not_mem_nil
  rcases List.mem_append.mp h with h | h
  case inr => exact wsX30_i9 w h
  rcases List.mem_append.mp h with h | h
  case inr => exact wsX10_i9 w h
  rcases List.mem_append.mp h with h | h
  case inr => exact wsX00_i9 w h
  rcases List.mem_append.mp h with h | h
  case inr => exact wsX20_i9 w h
  rcases List.mem_append.mp h with h | h
  case inl => exact wsL_law0_r1_in w h
  rcases List.mem_append.mp h with h | h
  case inl => exact wsL_law0_r2_in w h
  rcases List.mem_append.mp h with h | h
  case inl => exact wsL_law0_r3_in w h
  rcases List.mem_append.mp h with h | h
  case inl => exact wsL_law0_r4_in w h
  rcases List.mem_append.mp h with h | h
  case inl => exact wsL_law0_r5_in w h
  rcases List.mem_append.mp h with h | h
  case inl => exact wsL_law0_r6_in w h
  rcases List.mem_append.mp h with h | h
  case inl => exact wsL_law0_r7_in w h
  rcases List.mem_append.mp h with h | h
  case inl => exact wsL_law0_r8_in w h
  rcases List.mem_append.mp h with h | h
  case inl => exact wsL_law0_r9_in w h
  rcases List.mem_append.mp h with h | h
  case inl => exact wsL_law0_r10_in w h
  rcases List.mem_append.mp h with h | h
  case inl => exact wsL_law0_r11_in w h
  rcases List.mem_append.mp h with h | h
  case inl => exact wsL_law0_r12_in w h
  rcases List.mem_append.mp h with h | h
  case inl => exact wsL_law0_r13_in w h
  rcases List.mem_append.mp h with h | h
  case inl => exact wsL_law0_r14_in w h
  rcases List.mem_append.mp h with h | h
  case inl => exact wsL_law0_r15_in w h
  rcases List.mem_append.mp h with h | h
  case inl => exact wsL_law0_r16_in w h
  exact wsL_law0_r17_in w h
end
section
theorem wsL_law_x0 : ∀ w ∈ (vx_atS RX2 41 "java/lang/IllegalArgumentException" ["java/lang/RuntimeException", "java/lang/Exception"]).filter goodWord, w ∈ lw_tbl := by decide +kernel
theorem wsL_law_x1 : ∀ w ∈ (vx_atS RX2 58 "java/lang/IllegalStateException" ["java/lang/RuntimeException", "java/lang/Exception"]).filter goodWord, w ∈ lw_tbl := by decide +kernel
theorem wsL_law_x2 : ∀ w ∈ (vx_atS RX2 245 "java/lang/IndexOutOfBoundsException" ["java/lang/RuntimeException", "java/lang/Exception"]).filter goodWord, w ∈ lw_tbl := by decide +kernel
theorem wsL_law_in : ∀ w ∈ wsL_law, w ∈ lw_tbl := fun w h => (List.mem_append.mp h).elim (fun h => (List.mem_append.mp h).elim (fun h => (List.mem_append.mp h).elim (fun h => wsL_law_in0 w h) (fun h => wsL_law_x0 w h)) (fun h => wsL_law_x1 w h)) (fun h => wsL_law_x2 w h)
theorem inlX0 : ∀ w ∈ wsX00, w ∈ wsL_law := fun _ h => List.mem_append_left _ (List.mem_append_left _ (List.mem_append_left _ (List.mem_append_left _ (List.mem_append_left _ (List.mem_append_left _ (List.mem_append_right _ h))))))
theorem inX0 : ∀ w ∈ wsX00, w ∈ lw_tbl := fun w h => wsL_law_in w (inlX0 w h)
theorem inlX1 : ∀ w ∈ wsX10, w ∈ wsL_law := fun _ h => List.mem_append_left _ (List.mem_append_left _ (List.mem_append_left _ (List.mem_append_left _ (List.mem_append_left _ (List.mem_append_right _ h)))))
theorem inX1 : ∀ w ∈ wsX10, w ∈ lw_tbl := fun w h => wsL_law_in w (inlX1 w h)
theorem inlX2 : ∀ w ∈ wsX20, w ∈ wsL_law := fun _ h => List.mem_append_left _ (List.mem_append_left _ (List.mem_append_left _ (List.mem_append_left _ (List.mem_append_left _ (List.mem_append_left _ (List.mem_append_left _ (List.mem_append_right _ h)))))))
theorem inX2 : ∀ w ∈ wsX20, w ∈ lw_tbl := fun w h => wsL_law_in w (inlX2 w h)
theorem inlX3 : ∀ w ∈ wsX30, w ∈ wsL_law := fun _ h => List.mem_append_left _ (List.mem_append_left _ (List.mem_append_left _ (List.mem_append_left _ (List.mem_append_right _ h))))
theorem inX3 : ∀ w ∈ wsX30, w ∈ lw_tbl := fun w h => wsL_law_in w (inlX3 w h)
theorem inX4 : ∀ w ∈ wsX40, w ∈ lw_tbl := by decide +kernel
theorem inJ9 : ∀ w ∈ wsJ90, w ∈ lw_tbl := by decide +kernel
theorem inJ0 : ∀ w ∈ wsJ00, w ∈ lw_tbl := by decide +kernel
end
section
theorem dX0_init_0 : decode cX0_init 0 = .ok (.aload_n 0, 1) := by decide +kernel
theorem dX0_init_1 : decode cX0_init 1 = .ok (.invokespecial 3, 3) := by decide +kernel
theorem dX0_init_4 : decode cX0_init 4 = .ok (.aload_n 0, 1) := by decide +kernel
theorem dX0_init_5 : decode cX0_init 5 = .ok (.bipush 48, 2) := by decide +kernel
theorem dX0_init_7 : decode cX0_init 7 = .ok (.newarray .int, 2) := by decide +kernel
theorem dX0_init_9 : decode cX0_init 9 = .ok (.putfield 9, 3) := by decide +kernel
theorem dX0_init_12 : decode cX0_init 12 = .ok (.aload_n 0, 1) := by decide +kernel
theorem dX0_init_13 : decode cX0_init 13 = .ok (.bipush 48, 2) := by decide +kernel
theorem dX0_init_15 : decode cX0_init 15 = .ok (.newarray .int, 2) := by decide +kernel
theorem dX0_init_17 : decode cX0_init 17 = .ok (.putfield 15, 3) := by decide +kernel
theorem dX0_init_20 : decode cX0_init 20 = .ok (.aload_n 0, 1) := by decide +kernel
theorem dX0_init_21 : decode cX0_init 21 = .ok (.bipush 48, 2) := by decide +kernel
theorem dX0_init_23 : decode cX0_init 23 = .ok (.newarray .int, 2) := by decide +kernel
theorem dX0_init_25 : decode cX0_init 25 = .ok (.putfield 18, 3) := by decide +kernel
theorem dX0_init_28 : decode cX0_init 28 = .ok (.aload_n 0, 1) := by decide +kernel
theorem dX0_init_29 : decode cX0_init 29 = .ok (.bipush 48, 2) := by decide +kernel
theorem dX0_init_31 : decode cX0_init 31 = .ok (.newarray .int, 2) := by decide +kernel
theorem dX0_init_33 : decode cX0_init 33 = .ok (.putfield 21, 3) := by decide +kernel
theorem dX0_init_36 : decode cX0_init 36 = .ok (.aload_n 0, 1) := by decide +kernel
theorem dX0_init_37 : decode cX0_init 37 = .ok (.bipush 48, 2) := by decide +kernel
theorem dX0_init_39 : decode cX0_init 39 = .ok (.newarray .boolean, 2) := by decide +kernel
theorem dX0_init_41 : decode cX0_init 41 = .ok (.putfield 24, 3) := by decide +kernel
theorem dX0_init_44 : decode cX0_init 44 = .ok (.return_, 1) := by decide +kernel
theorem dX0_append_0 : decode cX0_append 0 = .ok (.aload_n 0, 1) := by decide +kernel
theorem dX0_append_1 : decode cX0_append 1 = .ok (.getfield 9, 3) := by decide +kernel
theorem dX0_append_4 : decode cX0_append 4 = .ok (.aload_n 0, 1) := by decide +kernel
theorem dX0_append_5 : decode cX0_append 5 = .ok (.getfield 28, 3) := by decide +kernel
theorem dX0_append_8 : decode cX0_append 8 = .ok (.aload_n 0, 1) := by decide +kernel
theorem dX0_append_9 : decode cX0_append 9 = .ok (.getfield 32, 3) := by decide +kernel
theorem dX0_append_12 : decode cX0_append 12 = .ok (.iastore, 1) := by decide +kernel
theorem dX0_append_13 : decode cX0_append 13 = .ok (.aload_n 0, 1) := by decide +kernel
theorem dX0_append_14 : decode cX0_append 14 = .ok (.getfield 15, 3) := by decide +kernel
theorem dX0_append_17 : decode cX0_append 17 = .ok (.aload_n 0, 1) := by decide +kernel
theorem dX0_append_18 : decode cX0_append 18 = .ok (.getfield 28, 3) := by decide +kernel
theorem dX0_append_21 : decode cX0_append 21 = .ok (.iload_n 1, 1) := by decide +kernel
theorem dX0_append_22 : decode cX0_append 22 = .ok (.iastore, 1) := by decide +kernel
theorem dX0_append_23 : decode cX0_append 23 = .ok (.aload_n 0, 1) := by decide +kernel
theorem dX0_append_24 : decode cX0_append 24 = .ok (.getfield 18, 3) := by decide +kernel
theorem dX0_append_27 : decode cX0_append 27 = .ok (.aload_n 0, 1) := by decide +kernel
theorem dX0_append_28 : decode cX0_append 28 = .ok (.getfield 28, 3) := by decide +kernel
theorem dX0_append_31 : decode cX0_append 31 = .ok (.iload_n 2, 1) := by decide +kernel
theorem dX0_append_32 : decode cX0_append 32 = .ok (.iastore, 1) := by decide +kernel
theorem dX0_append_33 : decode cX0_append 33 = .ok (.aload_n 0, 1) := by decide +kernel
theorem dX0_append_34 : decode cX0_append 34 = .ok (.getfield 21, 3) := by decide +kernel
theorem dX0_append_37 : decode cX0_append 37 = .ok (.aload_n 0, 1) := by decide +kernel
theorem dX0_append_38 : decode cX0_append 38 = .ok (.getfield 28, 3) := by decide +kernel
theorem dX0_append_41 : decode cX0_append 41 = .ok (.iload_n 3, 1) := by decide +kernel
theorem dX0_append_42 : decode cX0_append 42 = .ok (.iastore, 1) := by decide +kernel
theorem dX0_append_43 : decode cX0_append 43 = .ok (.aload_n 0, 1) := by decide +kernel
theorem dX0_append_44 : decode cX0_append 44 = .ok (.dup, 1) := by decide +kernel
theorem dX0_append_45 : decode cX0_append 45 = .ok (.getfield 28, 3) := by decide +kernel
theorem dX0_append_48 : decode cX0_append 48 = .ok (.iconst 1, 1) := by decide +kernel
theorem dX0_append_49 : decode cX0_append 49 = .ok (.iadd, 1) := by decide +kernel
theorem dX0_append_50 : decode cX0_append 50 = .ok (.putfield 28, 3) := by decide +kernel
theorem dX0_append_53 : decode cX0_append 53 = .ok (.aload_n 0, 1) := by decide +kernel
theorem dX0_append_54 : decode cX0_append 54 = .ok (.dup, 1) := by decide +kernel
theorem dX0_append_55 : decode cX0_append 55 = .ok (.getfield 32, 3) := by decide +kernel
theorem dX0_append_58 : decode cX0_append 58 = .ok (.iconst 1, 1) := by decide +kernel
theorem dX0_append_59 : decode cX0_append 59 = .ok (.iadd, 1) := by decide +kernel
theorem dX0_append_60 : decode cX0_append 60 = .ok (.putfield 32, 3) := by decide +kernel
theorem dX0_append_63 : decode cX0_append 63 = .ok (.aload_n 0, 1) := by decide +kernel
theorem dX0_append_64 : decode cX0_append 64 = .ok (.getfield 32, 3) := by decide +kernel
theorem dX0_append_67 : decode cX0_append 67 = .ok (.iconst 1, 1) := by decide +kernel
theorem dX0_append_68 : decode cX0_append 68 = .ok (.isub, 1) := by decide +kernel
theorem dX0_append_69 : decode cX0_append 69 = .ok (.ireturn, 1) := by decide +kernel
theorem dX0_markFirst_0 : decode cX0_markFirst 0 = .ok (.iconst 0, 1) := by decide +kernel
theorem dX0_markFirst_1 : decode cX0_markFirst 1 = .ok (.istore_n 1, 1) := by decide +kernel
theorem dX0_markFirst_2 : decode cX0_markFirst 2 = .ok (.iload_n 1, 1) := by decide +kernel
theorem dX0_markFirst_3 : decode cX0_markFirst 3 = .ok (.aload_n 0, 1) := by decide +kernel
theorem dX0_markFirst_4 : decode cX0_markFirst 4 = .ok (.getfield 28, 3) := by decide +kernel
theorem dX0_markFirst_7 : decode cX0_markFirst 7 = .ok (.if_icmp .ge 24, 3) := by decide +kernel
theorem dX0_markFirst_10 : decode cX0_markFirst 10 = .ok (.aload_n 0, 1) := by decide +kernel
theorem dX0_markFirst_11 : decode cX0_markFirst 11 = .ok (.getfield 24, 3) := by decide +kernel
theorem dX0_markFirst_14 : decode cX0_markFirst 14 = .ok (.iload_n 1, 1) := by decide +kernel
theorem dX0_markFirst_15 : decode cX0_markFirst 15 = .ok (.iload_n 1, 1) := by decide +kernel
theorem dX0_markFirst_16 : decode cX0_markFirst 16 = .ok (.ifCond .ne 7, 3) := by decide +kernel
theorem dX0_markFirst_19 : decode cX0_markFirst 19 = .ok (.iconst 1, 1) := by decide +kernel
theorem dX0_markFirst_20 : decode cX0_markFirst 20 = .ok (.goto 4, 3) := by decide +kernel
theorem dX0_markFirst_23 : decode cX0_markFirst 23 = .ok (.iconst 0, 1) := by decide +kernel
theorem dX0_markFirst_24 : decode cX0_markFirst 24 = .ok (.bastore, 1) := by decide +kernel
theorem dX0_markFirst_25 : decode cX0_markFirst 25 = .ok (.iinc 1 1, 3) := by decide +kernel
theorem dX0_markFirst_28 : decode cX0_markFirst 28 = .ok (.goto (-26), 3) := by decide +kernel
theorem dX0_markFirst_31 : decode cX0_markFirst 31 = .ok (.return_, 1) := by decide +kernel
theorem dX0_markAhead_0 : decode cX0_markAhead 0 = .ok (.iconst 0, 1) := by decide +kernel
theorem dX0_markAhead_1 : decode cX0_markAhead 1 = .ok (.istore_n 2, 1) := by decide +kernel
theorem dX0_markAhead_2 : decode cX0_markAhead 2 = .ok (.iload_n 2, 1) := by decide +kernel
theorem dX0_markAhead_3 : decode cX0_markAhead 3 = .ok (.aload_n 0, 1) := by decide +kernel
theorem dX0_markAhead_4 : decode cX0_markAhead 4 = .ok (.getfield 28, 3) := by decide +kernel
theorem dX0_markAhead_7 : decode cX0_markAhead 7 = .ok (.if_icmp .ge 30, 3) := by decide +kernel
theorem dX0_markAhead_10 : decode cX0_markAhead 10 = .ok (.aload_n 0, 1) := by decide +kernel
theorem dX0_markAhead_11 : decode cX0_markAhead 11 = .ok (.getfield 24, 3) := by decide +kernel
theorem dX0_markAhead_14 : decode cX0_markAhead 14 = .ok (.iload_n 2, 1) := by decide +kernel
theorem dX0_markAhead_15 : decode cX0_markAhead 15 = .ok (.aload_n 0, 1) := by decide +kernel
theorem dX0_markAhead_16 : decode cX0_markAhead 16 = .ok (.getfield 9, 3) := by decide +kernel
theorem dX0_markAhead_19 : decode cX0_markAhead 19 = .ok (.iload_n 2, 1) := by decide +kernel
theorem dX0_markAhead_20 : decode cX0_markAhead 20 = .ok (.iaload, 1) := by decide +kernel
theorem dX0_markAhead_21 : decode cX0_markAhead 21 = .ok (.iload_n 1, 1) := by decide +kernel
theorem dX0_markAhead_22 : decode cX0_markAhead 22 = .ok (.if_icmp .ge 7, 3) := by decide +kernel
theorem dX0_markAhead_25 : decode cX0_markAhead 25 = .ok (.iconst 1, 1) := by decide +kernel
theorem dX0_markAhead_26 : decode cX0_markAhead 26 = .ok (.goto 4, 3) := by decide +kernel
theorem dX0_markAhead_29 : decode cX0_markAhead 29 = .ok (.iconst 0, 1) := by decide +kernel
theorem dX0_markAhead_30 : decode cX0_markAhead 30 = .ok (.bastore, 1) := by decide +kernel
theorem dX0_markAhead_31 : decode cX0_markAhead 31 = .ok (.iinc 2 1, 3) := by decide +kernel
theorem dX0_markAhead_34 : decode cX0_markAhead 34 = .ok (.goto (-32), 3) := by decide +kernel
theorem dX0_markAhead_37 : decode cX0_markAhead 37 = .ok (.return_, 1) := by decide +kernel
set_option maxRecDepth 20000 in
theorem ggX0_markCompacted_X0_latestPosition : GoodIn wsX0_markCompacted wsX0_latestPosition := goodIn_r _ [10, 2, 11, 12, 13, 14, 15, 16, 17, 18] (by decide +kernel) (by decide +kernel)
set_option maxRecDepth 20000 in
theorem gX0_markCompacted_X0_latestPosition : GoodIn wsX0_markCompacted (wsV RX0 35 RX0 yX0_latestPosition wsX0_latestPosition) := goodIn_app (goodIn_of _ (by decide +kernel)) ggX0_markCompacted_X0_latestPosition
theorem dX0_markCompacted_0 : decode cX0_markCompacted 0 = .ok (.iconst 0, 1) := by decide +kernel
theorem dX0_markCompacted_1 : decode cX0_markCompacted 1 = .ok (.istore_n 2, 1) := by decide +kernel
theorem dX0_markCompacted_2 : decode cX0_markCompacted 2 = .ok (.iload_n 2, 1) := by decide +kernel
theorem dX0_markCompacted_3 : decode cX0_markCompacted 3 = .ok (.aload_n 0, 1) := by decide +kernel
theorem dX0_markCompacted_4 : decode cX0_markCompacted 4 = .ok (.getfield 28, 3) := by decide +kernel
theorem dX0_markCompacted_7 : decode cX0_markCompacted 7 = .ok (.if_icmp .ge 82, 3) := by decide +kernel
theorem dX0_markCompacted_10 : decode cX0_markCompacted 10 = .ok (.aload_n 0, 1) := by decide +kernel
theorem dX0_markCompacted_11 : decode cX0_markCompacted 11 = .ok (.aload_n 0, 1) := by decide +kernel
theorem dX0_markCompacted_12 : decode cX0_markCompacted 12 = .ok (.getfield 15, 3) := by decide +kernel
theorem dX0_markCompacted_15 : decode cX0_markCompacted 15 = .ok (.iload_n 2, 1) := by decide +kernel
theorem dX0_markCompacted_16 : decode cX0_markCompacted 16 = .ok (.iaload, 1) := by decide +kernel
theorem dX0_markCompacted_17 : decode cX0_markCompacted 17 = .ok (.iload_n 2, 1) := by decide +kernel
theorem dX0_markCompacted_18 : decode cX0_markCompacted 18 = .ok (.iconst 1, 1) := by decide +kernel
theorem dX0_markCompacted_19 : decode cX0_markCompacted 19 = .ok (.iadd, 1) := by decide +kernel
theorem dX0_markCompacted_20 : decode cX0_markCompacted 20 = .ok (.aload_n 0, 1) := by decide +kernel
theorem dX0_markCompacted_21 : decode cX0_markCompacted 21 = .ok (.getfield 28, 3) := by decide +kernel
theorem dX0_markCompacted_24 : decode cX0_markCompacted 24 = .ok (.invokevirtual 35, 3) := by decide +kernel
theorem dX0_markCompacted_27 : decode cX0_markCompacted 27 = .ok (.iconst (-1), 1) := by decide +kernel
theorem dX0_markCompacted_28 : decode cX0_markCompacted 28 = .ok (.if_icmp .eq 7, 3) := by decide +kernel
theorem dX0_markCompacted_31 : decode cX0_markCompacted 31 = .ok (.iconst 1, 1) := by decide +kernel
theorem dX0_markCompacted_32 : decode cX0_markCompacted 32 = .ok (.goto 4, 3) := by decide +kernel
theorem dX0_markCompacted_35 : decode cX0_markCompacted 35 = .ok (.iconst 0, 1) := by decide +kernel
theorem dX0_markCompacted_36 : decode cX0_markCompacted 36 = .ok (.istore_n 3, 1) := by decide +kernel
theorem dX0_markCompacted_37 : decode cX0_markCompacted 37 = .ok (.aload_n 0, 1) := by decide +kernel
theorem dX0_markCompacted_38 : decode cX0_markCompacted 38 = .ok (.getfield 18, 3) := by decide +kernel
theorem dX0_markCompacted_41 : decode cX0_markCompacted 41 = .ok (.iload_n 2, 1) := by decide +kernel
theorem dX0_markCompacted_42 : decode cX0_markCompacted 42 = .ok (.iaload, 1) := by decide +kernel
theorem dX0_markCompacted_43 : decode cX0_markCompacted 43 = .ok (.ifCond .ne 17, 3) := by decide +kernel
theorem dX0_markCompacted_46 : decode cX0_markCompacted 46 = .ok (.aload_n 0, 1) := by decide +kernel
theorem dX0_markCompacted_47 : decode cX0_markCompacted 47 = .ok (.getfield 9, 3) := by decide +kernel
theorem dX0_markCompacted_50 : decode cX0_markCompacted 50 = .ok (.iload_n 2, 1) := by decide +kernel
theorem dX0_markCompacted_51 : decode cX0_markCompacted 51 = .ok (.iaload, 1) := by decide +kernel
theorem dX0_markCompacted_52 : decode cX0_markCompacted 52 = .ok (.iload_n 1, 1) := by decide +kernel
theorem dX0_markCompacted_53 : decode cX0_markCompacted 53 = .ok (.if_icmp .ge 7, 3) := by decide +kernel
theorem dX0_markCompacted_56 : decode cX0_markCompacted 56 = .ok (.iconst 1, 1) := by decide +kernel
theorem dX0_markCompacted_57 : decode cX0_markCompacted 57 = .ok (.goto 4, 3) := by decide +kernel
theorem dX0_markCompacted_60 : decode cX0_markCompacted 60 = .ok (.iconst 0, 1) := by decide +kernel
theorem dX0_markCompacted_61 : decode cX0_markCompacted 61 = .ok (.istore 4, 2) := by decide +kernel
theorem dX0_markCompacted_63 : decode cX0_markCompacted 63 = .ok (.aload_n 0, 1) := by decide +kernel
theorem dX0_markCompacted_64 : decode cX0_markCompacted 64 = .ok (.getfield 24, 3) := by decide +kernel
theorem dX0_markCompacted_67 : decode cX0_markCompacted 67 = .ok (.iload_n 2, 1) := by decide +kernel
theorem dX0_markCompacted_68 : decode cX0_markCompacted 68 = .ok (.iload_n 3, 1) := by decide +kernel
theorem dX0_markCompacted_69 : decode cX0_markCompacted 69 = .ok (.ifCond .ne 8, 3) := by decide +kernel
theorem dX0_markCompacted_72 : decode cX0_markCompacted 72 = .ok (.iload 4, 2) := by decide +kernel
theorem dX0_markCompacted_74 : decode cX0_markCompacted 74 = .ok (.ifCond .eq 7, 3) := by decide +kernel
theorem dX0_markCompacted_77 : decode cX0_markCompacted 77 = .ok (.iconst 1, 1) := by decide +kernel
theorem dX0_markCompacted_78 : decode cX0_markCompacted 78 = .ok (.goto 4, 3) := by decide +kernel
theorem dX0_markCompacted_81 : decode cX0_markCompacted 81 = .ok (.iconst 0, 1) := by decide +kernel
theorem dX0_markCompacted_82 : decode cX0_markCompacted 82 = .ok (.bastore, 1) := by decide +kernel
theorem dX0_markCompacted_83 : decode cX0_markCompacted 83 = .ok (.iinc 2 1, 3) := by decide +kernel
theorem dX0_markCompacted_86 : decode cX0_markCompacted 86 = .ok (.goto (-84), 3) := by decide +kernel
theorem dX0_markCompacted_89 : decode cX0_markCompacted 89 = .ok (.return_, 1) := by decide +kernel
set_option maxRecDepth 20000 in
theorem ggX0_countMarked_X0_countMarkedFrom : GoodIn wsX0_countMarked wsX0_countMarkedFrom := goodIn_r _ [5, 6, 7, 8, 9, 10, 4, 11, 12, 13, 14, 15, 16, 17, 18, 19, 20] (by decide +kernel) (by decide +kernel)
set_option maxRecDepth 20000 in
theorem gX0_countMarked_X0_countMarkedFrom : GoodIn wsX0_countMarked (wsV RX0 39 RX0 yX0_countMarkedFrom wsX0_countMarkedFrom) := goodIn_app (goodIn_of _ (by decide +kernel)) ggX0_countMarked_X0_countMarkedFrom
theorem dX0_countMarked_0 : decode cX0_countMarked 0 = .ok (.aload_n 0, 1) := by decide +kernel
theorem dX0_countMarked_1 : decode cX0_countMarked 1 = .ok (.iconst 0, 1) := by decide +kernel
theorem dX0_countMarked_2 : decode cX0_countMarked 2 = .ok (.invokevirtual 39, 3) := by decide +kernel
theorem dX0_countMarked_5 : decode cX0_countMarked 5 = .ok (.ireturn, 1) := by decide +kernel
set_option maxRecDepth 20000 in
theorem ggX0_countMarkedFrom_X0_positionFrom : GoodIn wsX0_countMarkedFrom wsX0_positionFrom := goodIn_r _ [7, 1, 8, 9, 10, 11, 12, 13, 14, 15, 16] (by decide +kernel) (by decide +kernel)
set_option maxRecDepth 20000 in
theorem gX0_countMarkedFrom_X0_positionFrom : GoodIn wsX0_countMarkedFrom (wsV RX0 43 RX0 yX0_positionFrom wsX0_positionFrom) := goodIn_app (goodIn_of _ (by decide +kernel)) ggX0_countMarkedFrom_X0_positionFrom
theorem dX0_countMarkedFrom_0 : decode cX0_countMarkedFrom 0 = .ok (.iconst 0, 1) := by decide +kernel
theorem dX0_countMarkedFrom_1 : decode cX0_countMarkedFrom 1 = .ok (.istore_n 2, 1) := by decide +kernel
theorem dX0_countMarkedFrom_2 : decode cX0_countMarkedFrom 2 = .ok (.aload_n 0, 1) := by decide +kernel
theorem dX0_countMarkedFrom_3 : decode cX0_countMarkedFrom 3 = .ok (.iload_n 1, 1) := by decide +kernel
theorem dX0_countMarkedFrom_4 : decode cX0_countMarkedFrom 4 = .ok (.invokevirtual 43, 3) := by decide +kernel
theorem dX0_countMarkedFrom_7 : decode cX0_countMarkedFrom 7 = .ok (.istore_n 3, 1) := by decide +kernel
theorem dX0_countMarkedFrom_8 : decode cX0_countMarkedFrom 8 = .ok (.iload_n 3, 1) := by decide +kernel
theorem dX0_countMarkedFrom_9 : decode cX0_countMarkedFrom 9 = .ok (.aload_n 0, 1) := by decide +kernel
theorem dX0_countMarkedFrom_10 : decode cX0_countMarkedFrom 10 = .ok (.getfield 28, 3) := by decide +kernel
theorem dX0_countMarkedFrom_13 : decode cX0_countMarkedFrom 13 = .ok (.if_icmp .ge 21, 3) := by decide +kernel
theorem dX0_countMarkedFrom_16 : decode cX0_countMarkedFrom 16 = .ok (.aload_n 0, 1) := by decide +kernel
theorem dX0_countMarkedFrom_17 : decode cX0_countMarkedFrom 17 = .ok (.getfield 24, 3) := by decide +kernel
theorem dX0_countMarkedFrom_20 : decode cX0_countMarkedFrom 20 = .ok (.iload_n 3, 1) := by decide +kernel
theorem dX0_countMarkedFrom_21 : decode cX0_countMarkedFrom 21 = .ok (.baload, 1) := by decide +kernel
theorem dX0_countMarkedFrom_22 : decode cX0_countMarkedFrom 22 = .ok (.ifCond .eq 6, 3) := by decide +kernel
theorem dX0_countMarkedFrom_25 : decode cX0_countMarkedFrom 25 = .ok (.iinc 2 1, 3) := by decide +kernel
theorem dX0_countMarkedFrom_28 : decode cX0_countMarkedFrom 28 = .ok (.iinc 3 1, 3) := by decide +kernel
theorem dX0_countMarkedFrom_31 : decode cX0_countMarkedFrom 31 = .ok (.goto (-23), 3) := by decide +kernel
theorem dX0_countMarkedFrom_34 : decode cX0_countMarkedFrom 34 = .ok (.iload_n 2, 1) := by decide +kernel
theorem dX0_countMarkedFrom_35 : decode cX0_countMarkedFrom 35 = .ok (.ireturn, 1) := by decide +kernel
theorem dX0_removeMarked_0 : decode cX0_removeMarked 0 = .ok (.iconst 0, 1) := by decide +kernel
theorem dX0_removeMarked_1 : decode cX0_removeMarked 1 = .ok (.istore_n 1, 1) := by decide +kernel
theorem dX0_removeMarked_2 : decode cX0_removeMarked 2 = .ok (.iconst 0, 1) := by decide +kernel
theorem dX0_removeMarked_3 : decode cX0_removeMarked 3 = .ok (.istore_n 2, 1) := by decide +kernel
theorem dX0_removeMarked_4 : decode cX0_removeMarked 4 = .ok (.iload_n 2, 1) := by decide +kernel
theorem dX0_removeMarked_5 : decode cX0_removeMarked 5 = .ok (.aload_n 0, 1) := by decide +kernel
theorem dX0_removeMarked_6 : decode cX0_removeMarked 6 = .ok (.getfield 28, 3) := by decide +kernel
theorem dX0_removeMarked_9 : decode cX0_removeMarked 9 = .ok (.if_icmp .ge 69, 3) := by decide +kernel
theorem dX0_removeMarked_12 : decode cX0_removeMarked 12 = .ok (.aload_n 0, 1) := by decide +kernel
theorem dX0_removeMarked_13 : decode cX0_removeMarked 13 = .ok (.getfield 24, 3) := by decide +kernel
theorem dX0_removeMarked_16 : decode cX0_removeMarked 16 = .ok (.iload_n 2, 1) := by decide +kernel
theorem dX0_removeMarked_17 : decode cX0_removeMarked 17 = .ok (.baload, 1) := by decide +kernel
theorem dX0_removeMarked_18 : decode cX0_removeMarked 18 = .ok (.ifCond .ne 54, 3) := by decide +kernel
theorem dX0_removeMarked_21 : decode cX0_removeMarked 21 = .ok (.aload_n 0, 1) := by decide +kernel
theorem dX0_removeMarked_22 : decode cX0_removeMarked 22 = .ok (.getfield 9, 3) := by decide +kernel
theorem dX0_removeMarked_25 : decode cX0_removeMarked 25 = .ok (.iload_n 1, 1) := by decide +kernel
theorem dX0_removeMarked_26 : decode cX0_removeMarked 26 = .ok (.aload_n 0, 1) := by decide +kernel
theorem dX0_removeMarked_27 : decode cX0_removeMarked 27 = .ok (.getfield 9, 3) := by decide +kernel
theorem dX0_removeMarked_30 : decode cX0_removeMarked 30 = .ok (.iload_n 2, 1) := by decide +kernel
theorem dX0_removeMarked_31 : decode cX0_removeMarked 31 = .ok (.iaload, 1) := by decide +kernel
theorem dX0_removeMarked_32 : decode cX0_removeMarked 32 = .ok (.iastore, 1) := by decide +kernel
theorem dX0_removeMarked_33 : decode cX0_removeMarked 33 = .ok (.aload_n 0, 1) := by decide +kernel
theorem dX0_removeMarked_34 : decode cX0_removeMarked 34 = .ok (.getfield 15, 3) := by decide +kernel
theorem dX0_removeMarked_37 : decode cX0_removeMarked 37 = .ok (.iload_n 1, 1) := by decide +kernel
theorem dX0_removeMarked_38 : decode cX0_removeMarked 38 = .ok (.aload_n 0, 1) := by decide +kernel
theorem dX0_removeMarked_39 : decode cX0_removeMarked 39 = .ok (.getfield 15, 3) := by decide +kernel
theorem dX0_removeMarked_42 : decode cX0_removeMarked 42 = .ok (.iload_n 2, 1) := by decide +kernel
theorem dX0_removeMarked_43 : decode cX0_removeMarked 43 = .ok (.iaload, 1) := by decide +kernel
theorem dX0_removeMarked_44 : decode cX0_removeMarked 44 = .ok (.iastore, 1) := by decide +kernel
theorem dX0_removeMarked_45 : decode cX0_removeMarked 45 = .ok (.aload_n 0, 1) := by decide +kernel
theorem dX0_removeMarked_46 : decode cX0_removeMarked 46 = .ok (.getfield 18, 3) := by decide +kernel
theorem dX0_removeMarked_49 : decode cX0_removeMarked 49 = .ok (.iload_n 1, 1) := by decide +kernel
theorem dX0_removeMarked_50 : decode cX0_removeMarked 50 = .ok (.aload_n 0, 1) := by decide +kernel
theorem dX0_removeMarked_51 : decode cX0_removeMarked 51 = .ok (.getfield 18, 3) := by decide +kernel
theorem dX0_removeMarked_54 : decode cX0_removeMarked 54 = .ok (.iload_n 2, 1) := by decide +kernel
theorem dX0_removeMarked_55 : decode cX0_removeMarked 55 = .ok (.iaload, 1) := by decide +kernel
theorem dX0_removeMarked_56 : decode cX0_removeMarked 56 = .ok (.iastore, 1) := by decide +kernel
theorem dX0_removeMarked_57 : decode cX0_removeMarked 57 = .ok (.aload_n 0, 1) := by decide +kernel
theorem dX0_removeMarked_58 : decode cX0_removeMarked 58 = .ok (.getfield 21, 3) := by decide +kernel
theorem dX0_removeMarked_61 : decode cX0_removeMarked 61 = .ok (.iload_n 1, 1) := by decide +kernel
theorem dX0_removeMarked_62 : decode cX0_removeMarked 62 = .ok (.aload_n 0, 1) := by decide +kernel
theorem dX0_removeMarked_63 : decode cX0_removeMarked 63 = .ok (.getfield 21, 3) := by decide +kernel
theorem dX0_removeMarked_66 : decode cX0_removeMarked 66 = .ok (.iload_n 2, 1) := by decide +kernel
theorem dX0_removeMarked_67 : decode cX0_removeMarked 67 = .ok (.iaload, 1) := by decide +kernel
theorem dX0_removeMarked_68 : decode cX0_removeMarked 68 = .ok (.iastore, 1) := by decide +kernel
theorem dX0_removeMarked_69 : decode cX0_removeMarked 69 = .ok (.iinc 1 1, 3) := by decide +kernel
theorem dX0_removeMarked_72 : decode cX0_removeMarked 72 = .ok (.iinc 2 1, 3) := by decide +kernel
theorem dX0_removeMarked_75 : decode cX0_removeMarked 75 = .ok (.goto (-71), 3) := by decide +kernel
theorem dX0_removeMarked_78 : decode cX0_removeMarked 78 = .ok (.aload_n 0, 1) := by decide +kernel
theorem dX0_removeMarked_79 : decode cX0_removeMarked 79 = .ok (.getfield 28, 3) := by decide +kernel
theorem dX0_removeMarked_82 : decode cX0_removeMarked 82 = .ok (.iload_n 1, 1) := by decide +kernel
theorem dX0_removeMarked_83 : decode cX0_removeMarked 83 = .ok (.isub, 1) := by decide +kernel
theorem dX0_removeMarked_84 : decode cX0_removeMarked 84 = .ok (.istore_n 2, 1) := by decide +kernel
theorem dX0_removeMarked_85 : decode cX0_removeMarked 85 = .ok (.aload_n 0, 1) := by decide +kernel
theorem dX0_removeMarked_86 : decode cX0_removeMarked 86 = .ok (.iload_n 1, 1) := by decide +kernel
theorem dX0_removeMarked_87 : decode cX0_removeMarked 87 = .ok (.putfield 28, 3) := by decide +kernel
theorem dX0_removeMarked_90 : decode cX0_removeMarked 90 = .ok (.aload_n 0, 1) := by decide +kernel
theorem dX0_removeMarked_91 : decode cX0_removeMarked 91 = .ok (.dup, 1) := by decide +kernel
theorem dX0_removeMarked_92 : decode cX0_removeMarked 92 = .ok (.getfield 46, 3) := by decide +kernel
theorem dX0_removeMarked_95 : decode cX0_removeMarked 95 = .ok (.iload_n 2, 1) := by decide +kernel
theorem dX0_removeMarked_96 : decode cX0_removeMarked 96 = .ok (.iadd, 1) := by decide +kernel
theorem dX0_removeMarked_97 : decode cX0_removeMarked 97 = .ok (.putfield 46, 3) := by decide +kernel
theorem dX0_removeMarked_100 : decode cX0_removeMarked 100 = .ok (.iload_n 2, 1) := by decide +kernel
theorem dX0_removeMarked_101 : decode cX0_removeMarked 101 = .ok (.ireturn, 1) := by decide +kernel
theorem dX0_positionFrom_0 : decode cX0_positionFrom 0 = .ok (.iconst 0, 1) := by decide +kernel
theorem dX0_positionFrom_1 : decode cX0_positionFrom 1 = .ok (.istore_n 2, 1) := by decide +kernel
theorem dX0_positionFrom_2 : decode cX0_positionFrom 2 = .ok (.iload_n 2, 1) := by decide +kernel
theorem dX0_positionFrom_3 : decode cX0_positionFrom 3 = .ok (.aload_n 0, 1) := by decide +kernel
theorem dX0_positionFrom_4 : decode cX0_positionFrom 4 = .ok (.getfield 28, 3) := by decide +kernel
theorem dX0_positionFrom_7 : decode cX0_positionFrom 7 = .ok (.if_icmp .ge 19, 3) := by decide +kernel
theorem dX0_positionFrom_10 : decode cX0_positionFrom 10 = .ok (.aload_n 0, 1) := by decide +kernel
theorem dX0_positionFrom_11 : decode cX0_positionFrom 11 = .ok (.getfield 9, 3) := by decide +kernel
theorem dX0_positionFrom_14 : decode cX0_positionFrom 14 = .ok (.iload_n 2, 1) := by decide +kernel
theorem dX0_positionFrom_15 : decode cX0_positionFrom 15 = .ok (.iaload, 1) := by decide +kernel
theorem dX0_positionFrom_16 : decode cX0_positionFrom 16 = .ok (.iload_n 1, 1) := by decide +kernel
theorem dX0_positionFrom_17 : decode cX0_positionFrom 17 = .ok (.if_icmp .ge 9, 3) := by decide +kernel
theorem dX0_positionFrom_20 : decode cX0_positionFrom 20 = .ok (.iinc 2 1, 3) := by decide +kernel
theorem dX0_positionFrom_23 : decode cX0_positionFrom 23 = .ok (.goto (-21), 3) := by decide +kernel
theorem dX0_positionFrom_26 : decode cX0_positionFrom 26 = .ok (.iload_n 2, 1) := by decide +kernel
theorem dX0_positionFrom_27 : decode cX0_positionFrom 27 = .ok (.ireturn, 1) := by decide +kernel
set_option maxRecDepth 20000 in
theorem ggX0_positionOf_X0_positionFrom : GoodIn wsX0_positionOf wsX0_positionFrom := goodIn_r _ [7, 1, 2, 8, 9, 10, 11, 12, 13, 14, 15] (by decide +kernel) (by decide +kernel)
set_option maxRecDepth 20000 in
theorem gX0_positionOf_X0_positionFrom : GoodIn wsX0_positionOf (wsV RX0 43 RX0 yX0_positionFrom wsX0_positionFrom) := goodIn_app (goodIn_of _ (by decide +kernel)) ggX0_positionOf_X0_positionFrom
theorem dX0_positionOf_0 : decode cX0_positionOf 0 = .ok (.aload_n 0, 1) := by decide +kernel
theorem dX0_positionOf_1 : decode cX0_positionOf 1 = .ok (.iload_n 1, 1) := by decide +kernel
theorem dX0_positionOf_2 : decode cX0_positionOf 2 = .ok (.invokevirtual 43, 3) := by decide +kernel
theorem dX0_positionOf_5 : decode cX0_positionOf 5 = .ok (.istore_n 2, 1) := by decide +kernel
theorem dX0_positionOf_6 : decode cX0_positionOf 6 = .ok (.iload_n 2, 1) := by decide +kernel
theorem dX0_positionOf_7 : decode cX0_positionOf 7 = .ok (.aload_n 0, 1) := by decide +kernel
theorem dX0_positionOf_8 : decode cX0_positionOf 8 = .ok (.getfield 28, 3) := by decide +kernel
theorem dX0_positionOf_11 : decode cX0_positionOf 11 = .ok (.if_icmp .ge 17, 3) := by decide +kernel
theorem dX0_positionOf_14 : decode cX0_positionOf 14 = .ok (.aload_n 0, 1) := by decide +kernel
theorem dX0_positionOf_15 : decode cX0_positionOf 15 = .ok (.getfield 9, 3) := by decide +kernel
theorem dX0_positionOf_18 : decode cX0_positionOf 18 = .ok (.iload_n 2, 1) := by decide +kernel
theorem dX0_positionOf_19 : decode cX0_positionOf 19 = .ok (.iaload, 1) := by decide +kernel
theorem dX0_positionOf_20 : decode cX0_positionOf 20 = .ok (.iload_n 1, 1) := by decide +kernel
theorem dX0_positionOf_21 : decode cX0_positionOf 21 = .ok (.if_icmp .ne 7, 3) := by decide +kernel
theorem dX0_positionOf_24 : decode cX0_positionOf 24 = .ok (.iload_n 2, 1) := by decide +kernel
theorem dX0_positionOf_25 : decode cX0_positionOf 25 = .ok (.goto 4, 3) := by decide +kernel
theorem dX0_positionOf_28 : decode cX0_positionOf 28 = .ok (.iconst (-1), 1) := by decide +kernel
theorem dX0_positionOf_29 : decode cX0_positionOf 29 = .ok (.ireturn, 1) := by decide +kernel
theorem dX0_latestPosition_0 : decode cX0_latestPosition 0 = .ok (.iload_n 3, 1) := by decide +kernel
theorem dX0_latestPosition_1 : decode cX0_latestPosition 1 = .ok (.iconst 1, 1) := by decide +kernel
theorem dX0_latestPosition_2 : decode cX0_latestPosition 2 = .ok (.isub, 1) := by decide +kernel
theorem dX0_latestPosition_3 : decode cX0_latestPosition 3 = .ok (.istore 4, 2) := by decide +kernel
theorem dX0_latestPosition_5 : decode cX0_latestPosition 5 = .ok (.iload 4, 2) := by decide +kernel
theorem dX0_latestPosition_7 : decode cX0_latestPosition 7 = .ok (.iload_n 2, 1) := by decide +kernel
theorem dX0_latestPosition_8 : decode cX0_latestPosition 8 = .ok (.if_icmp .lt 23, 3) := by decide +kernel
theorem dX0_latestPosition_11 : decode cX0_latestPosition 11 = .ok (.aload_n 0, 1) := by decide +kernel
theorem dX0_latestPosition_12 : decode cX0_latestPosition 12 = .ok (.getfield 15, 3) := by decide +kernel
theorem dX0_latestPosition_15 : decode cX0_latestPosition 15 = .ok (.iload 4, 2) := by decide +kernel
theorem dX0_latestPosition_17 : decode cX0_latestPosition 17 = .ok (.iaload, 1) := by decide +kernel
theorem dX0_latestPosition_18 : decode cX0_latestPosition 18 = .ok (.iload_n 1, 1) := by decide +kernel
theorem dX0_latestPosition_19 : decode cX0_latestPosition 19 = .ok (.if_icmp .ne 6, 3) := by decide +kernel
theorem dX0_latestPosition_22 : decode cX0_latestPosition 22 = .ok (.iload 4, 2) := by decide +kernel
theorem dX0_latestPosition_24 : decode cX0_latestPosition 24 = .ok (.ireturn, 1) := by decide +kernel
theorem dX0_latestPosition_25 : decode cX0_latestPosition 25 = .ok (.iinc 4 (-1), 3) := by decide +kernel
theorem dX0_latestPosition_28 : decode cX0_latestPosition 28 = .ok (.goto (-23), 3) := by decide +kernel
theorem dX0_latestPosition_31 : decode cX0_latestPosition 31 = .ok (.iconst (-1), 1) := by decide +kernel
theorem dX0_latestPosition_32 : decode cX0_latestPosition 32 = .ok (.ireturn, 1) := by decide +kernel
set_option maxRecDepth 20000 in
theorem ggX0_latestOffset_X0_latestPosition : GoodIn wsX0_latestOffset wsX0_latestPosition := goodIn_r _ [7, 8, 9, 10, 11, 12, 13, 14, 15, 16] (by decide +kernel) (by decide +kernel)
set_option maxRecDepth 20000 in
theorem gX0_latestOffset_X0_latestPosition : GoodIn wsX0_latestOffset (wsV RX0 35 RX0 yX0_latestPosition wsX0_latestPosition) := goodIn_app (goodIn_of _ (by decide +kernel)) ggX0_latestOffset_X0_latestPosition
theorem dX0_latestOffset_0 : decode cX0_latestOffset 0 = .ok (.aload_n 0, 1) := by decide +kernel
theorem dX0_latestOffset_1 : decode cX0_latestOffset 1 = .ok (.iload_n 1, 1) := by decide +kernel
theorem dX0_latestOffset_2 : decode cX0_latestOffset 2 = .ok (.iconst 0, 1) := by decide +kernel
theorem dX0_latestOffset_3 : decode cX0_latestOffset 3 = .ok (.aload_n 0, 1) := by decide +kernel
theorem dX0_latestOffset_4 : decode cX0_latestOffset 4 = .ok (.getfield 28, 3) := by decide +kernel
theorem dX0_latestOffset_7 : decode cX0_latestOffset 7 = .ok (.invokevirtual 35, 3) := by decide +kernel
theorem dX0_latestOffset_10 : decode cX0_latestOffset 10 = .ok (.istore_n 2, 1) := by decide +kernel
theorem dX0_latestOffset_11 : decode cX0_latestOffset 11 = .ok (.iload_n 2, 1) := by decide +kernel
theorem dX0_latestOffset_12 : decode cX0_latestOffset 12 = .ok (.iconst (-1), 1) := by decide +kernel
theorem dX0_latestOffset_13 : decode cX0_latestOffset 13 = .ok (.if_icmp .ne 7, 3) := by decide +kernel
theorem dX0_latestOffset_16 : decode cX0_latestOffset 16 = .ok (.iconst (-1), 1) := by decide +kernel
theorem dX0_latestOffset_17 : decode cX0_latestOffset 17 = .ok (.goto 9, 3) := by decide +kernel
theorem dX0_latestOffset_20 : decode cX0_latestOffset 20 = .ok (.aload_n 0, 1) := by decide +kernel
theorem dX0_latestOffset_21 : decode cX0_latestOffset 21 = .ok (.getfield 9, 3) := by decide +kernel
theorem dX0_latestOffset_24 : decode cX0_latestOffset 24 = .ok (.iload_n 2, 1) := by decide +kernel
theorem dX0_latestOffset_25 : decode cX0_latestOffset 25 = .ok (.iaload, 1) := by decide +kernel
theorem dX0_latestOffset_26 : decode cX0_latestOffset 26 = .ok (.ireturn, 1) := by decide +kernel
set_option maxRecDepth 20000 in
theorem ggX0_latestValue_X0_latestPosition : GoodIn wsX0_latestValue wsX0_latestPosition := goodIn_r _ [7, 8, 9, 10, 11, 12, 13, 14, 15, 16] (by decide +kernel) (by decide +kernel)
set_option maxRecDepth 20000 in
theorem gX0_latestValue_X0_latestPosition : GoodIn wsX0_latestValue (wsV RX0 35 RX0 yX0_latestPosition wsX0_latestPosition) := goodIn_app (goodIn_of _ (by decide +kernel)) ggX0_latestValue_X0_latestPosition
theorem dX0_latestValue_0 : decode cX0_latestValue 0 = .ok (.aload_n 0, 1) := by decide +kernel
theorem dX0_latestValue_1 : decode cX0_latestValue 1 = .ok (.iload_n 1, 1) := by decide +kernel
theorem dX0_latestValue_2 : decode cX0_latestValue 2 = .ok (.iconst 0, 1) := by decide +kernel
theorem dX0_latestValue_3 : decode cX0_latestValue 3 = .ok (.aload_n 0, 1) := by decide +kernel
theorem dX0_latestValue_4 : decode cX0_latestValue 4 = .ok (.getfield 28, 3) := by decide +kernel
theorem dX0_latestValue_7 : decode cX0_latestValue 7 = .ok (.invokevirtual 35, 3) := by decide +kernel
theorem dX0_latestValue_10 : decode cX0_latestValue 10 = .ok (.istore_n 2, 1) := by decide +kernel
theorem dX0_latestValue_11 : decode cX0_latestValue 11 = .ok (.iload_n 2, 1) := by decide +kernel
theorem dX0_latestValue_12 : decode cX0_latestValue 12 = .ok (.iconst (-1), 1) := by decide +kernel
theorem dX0_latestValue_13 : decode cX0_latestValue 13 = .ok (.if_icmp .ne 7, 3) := by decide +kernel
theorem dX0_latestValue_16 : decode cX0_latestValue 16 = .ok (.iconst 0, 1) := by decide +kernel
theorem dX0_latestValue_17 : decode cX0_latestValue 17 = .ok (.goto 9, 3) := by decide +kernel
theorem dX0_latestValue_20 : decode cX0_latestValue 20 = .ok (.aload_n 0, 1) := by decide +kernel
theorem dX0_latestValue_21 : decode cX0_latestValue 21 = .ok (.getfield 18, 3) := by decide +kernel
theorem dX0_latestValue_24 : decode cX0_latestValue 24 = .ok (.iload_n 2, 1) := by decide +kernel
theorem dX0_latestValue_25 : decode cX0_latestValue 25 = .ok (.iaload, 1) := by decide +kernel
theorem dX0_latestValue_26 : decode cX0_latestValue 26 = .ok (.ireturn, 1) := by decide +kernel
set_option maxRecDepth 20000 in
theorem ggX0_countKey_X0_countEqual : GoodIn wsX0_countKey wsX0_countEqual := goodIn_r _ [6, 7, 8, 9, 10, 11, 12, 13, 14, 15] (by decide +kernel) (by decide +kernel)
set_option maxRecDepth 20000 in
theorem gX0_countKey_X0_countEqual : GoodIn wsX0_countKey (wsV RX0 49 RX0 yX0_countEqual wsX0_countEqual) := goodIn_app (goodIn_of _ (by decide +kernel)) ggX0_countKey_X0_countEqual
theorem dX0_countKey_0 : decode cX0_countKey 0 = .ok (.aload_n 0, 1) := by decide +kernel
theorem dX0_countKey_1 : decode cX0_countKey 1 = .ok (.aload_n 0, 1) := by decide +kernel
theorem dX0_countKey_2 : decode cX0_countKey 2 = .ok (.getfield 15, 3) := by decide +kernel
theorem dX0_countKey_5 : decode cX0_countKey 5 = .ok (.iload_n 1, 1) := by decide +kernel
theorem dX0_countKey_6 : decode cX0_countKey 6 = .ok (.invokevirtual 49, 3) := by decide +kernel
theorem dX0_countKey_9 : decode cX0_countKey 9 = .ok (.ireturn, 1) := by decide +kernel
set_option maxRecDepth 20000 in
theorem ggX0_countStorm_X0_countEqual : GoodIn wsX0_countStorm wsX0_countEqual := goodIn_r _ [6, 7, 8, 9, 10, 11, 12, 13, 14, 15] (by decide +kernel) (by decide +kernel)
set_option maxRecDepth 20000 in
theorem gX0_countStorm_X0_countEqual : GoodIn wsX0_countStorm (wsV RX0 49 RX0 yX0_countEqual wsX0_countEqual) := goodIn_app (goodIn_of _ (by decide +kernel)) ggX0_countStorm_X0_countEqual
theorem dX0_countStorm_0 : decode cX0_countStorm 0 = .ok (.aload_n 0, 1) := by decide +kernel
theorem dX0_countStorm_1 : decode cX0_countStorm 1 = .ok (.aload_n 0, 1) := by decide +kernel
theorem dX0_countStorm_2 : decode cX0_countStorm 2 = .ok (.getfield 21, 3) := by decide +kernel
theorem dX0_countStorm_5 : decode cX0_countStorm 5 = .ok (.iload_n 1, 1) := by decide +kernel
theorem dX0_countStorm_6 : decode cX0_countStorm 6 = .ok (.invokevirtual 49, 3) := by decide +kernel
theorem dX0_countStorm_9 : decode cX0_countStorm 9 = .ok (.ireturn, 1) := by decide +kernel
theorem dX0_countEqual_0 : decode cX0_countEqual 0 = .ok (.iconst 0, 1) := by decide +kernel
theorem dX0_countEqual_1 : decode cX0_countEqual 1 = .ok (.istore_n 3, 1) := by decide +kernel
theorem dX0_countEqual_2 : decode cX0_countEqual 2 = .ok (.iconst 0, 1) := by decide +kernel
theorem dX0_countEqual_3 : decode cX0_countEqual 3 = .ok (.istore 4, 2) := by decide +kernel
theorem dX0_countEqual_5 : decode cX0_countEqual 5 = .ok (.iload 4, 2) := by decide +kernel
theorem dX0_countEqual_7 : decode cX0_countEqual 7 = .ok (.aload_n 0, 1) := by decide +kernel
theorem dX0_countEqual_8 : decode cX0_countEqual 8 = .ok (.getfield 28, 3) := by decide +kernel
theorem dX0_countEqual_11 : decode cX0_countEqual 11 = .ok (.if_icmp .ge 20, 3) := by decide +kernel
theorem dX0_countEqual_14 : decode cX0_countEqual 14 = .ok (.aload_n 1, 1) := by decide +kernel
theorem dX0_countEqual_15 : decode cX0_countEqual 15 = .ok (.iload 4, 2) := by decide +kernel
theorem dX0_countEqual_17 : decode cX0_countEqual 17 = .ok (.iaload, 1) := by decide +kernel
theorem dX0_countEqual_18 : decode cX0_countEqual 18 = .ok (.iload_n 2, 1) := by decide +kernel
theorem dX0_countEqual_19 : decode cX0_countEqual 19 = .ok (.if_icmp .ne 6, 3) := by decide +kernel
theorem dX0_countEqual_22 : decode cX0_countEqual 22 = .ok (.iinc 3 1, 3) := by decide +kernel
theorem dX0_countEqual_25 : decode cX0_countEqual 25 = .ok (.iinc 4 1, 3) := by decide +kernel
theorem dX0_countEqual_28 : decode cX0_countEqual 28 = .ok (.goto (-23), 3) := by decide +kernel
theorem dX0_countEqual_31 : decode cX0_countEqual 31 = .ok (.iload_n 3, 1) := by decide +kernel
theorem dX0_countEqual_32 : decode cX0_countEqual 32 = .ok (.ireturn, 1) := by decide +kernel
theorem dX0_copyStorm_0 : decode cX0_copyStorm 0 = .ok (.iconst 0, 1) := by decide +kernel
theorem dX0_copyStorm_1 : decode cX0_copyStorm 1 = .ok (.istore 4, 2) := by decide +kernel
theorem dX0_copyStorm_3 : decode cX0_copyStorm 3 = .ok (.iconst 0, 1) := by decide +kernel
theorem dX0_copyStorm_4 : decode cX0_copyStorm 4 = .ok (.istore 5, 2) := by decide +kernel
theorem dX0_copyStorm_6 : decode cX0_copyStorm 6 = .ok (.iload 5, 2) := by decide +kernel
theorem dX0_copyStorm_8 : decode cX0_copyStorm 8 = .ok (.aload_n 0, 1) := by decide +kernel
theorem dX0_copyStorm_9 : decode cX0_copyStorm 9 = .ok (.getfield 28, 3) := by decide +kernel
theorem dX0_copyStorm_12 : decode cX0_copyStorm 12 = .ok (.if_icmp .ge 45, 3) := by decide +kernel
theorem dX0_copyStorm_15 : decode cX0_copyStorm 15 = .ok (.aload_n 0, 1) := by decide +kernel
theorem dX0_copyStorm_16 : decode cX0_copyStorm 16 = .ok (.getfield 21, 3) := by decide +kernel
theorem dX0_copyStorm_19 : decode cX0_copyStorm 19 = .ok (.iload 5, 2) := by decide +kernel
theorem dX0_copyStorm_21 : decode cX0_copyStorm 21 = .ok (.iaload, 1) := by decide +kernel
theorem dX0_copyStorm_22 : decode cX0_copyStorm 22 = .ok (.iload_n 1, 1) := by decide +kernel
theorem dX0_copyStorm_23 : decode cX0_copyStorm 23 = .ok (.if_icmp .ne 28, 3) := by decide +kernel
theorem dX0_copyStorm_26 : decode cX0_copyStorm 26 = .ok (.aload_n 2, 1) := by decide +kernel
theorem dX0_copyStorm_27 : decode cX0_copyStorm 27 = .ok (.iload 4, 2) := by decide +kernel
theorem dX0_copyStorm_29 : decode cX0_copyStorm 29 = .ok (.aload_n 0, 1) := by decide +kernel
theorem dX0_copyStorm_30 : decode cX0_copyStorm 30 = .ok (.getfield 15, 3) := by decide +kernel
theorem dX0_copyStorm_33 : decode cX0_copyStorm 33 = .ok (.iload 5, 2) := by decide +kernel
theorem dX0_copyStorm_35 : decode cX0_copyStorm 35 = .ok (.iaload, 1) := by decide +kernel
theorem dX0_copyStorm_36 : decode cX0_copyStorm 36 = .ok (.iastore, 1) := by decide +kernel
theorem dX0_copyStorm_37 : decode cX0_copyStorm 37 = .ok (.aload_n 3, 1) := by decide +kernel
theorem dX0_copyStorm_38 : decode cX0_copyStorm 38 = .ok (.iload 4, 2) := by decide +kernel
theorem dX0_copyStorm_40 : decode cX0_copyStorm 40 = .ok (.aload_n 0, 1) := by decide +kernel
theorem dX0_copyStorm_41 : decode cX0_copyStorm 41 = .ok (.getfield 18, 3) := by decide +kernel
theorem dX0_copyStorm_44 : decode cX0_copyStorm 44 = .ok (.iload 5, 2) := by decide +kernel
theorem dX0_copyStorm_46 : decode cX0_copyStorm 46 = .ok (.iaload, 1) := by decide +kernel
theorem dX0_copyStorm_47 : decode cX0_copyStorm 47 = .ok (.iastore, 1) := by decide +kernel
theorem dX0_copyStorm_48 : decode cX0_copyStorm 48 = .ok (.iinc 4 1, 3) := by decide +kernel
theorem dX0_copyStorm_51 : decode cX0_copyStorm 51 = .ok (.iinc 5 1, 3) := by decide +kernel
theorem dX0_copyStorm_54 : decode cX0_copyStorm 54 = .ok (.goto (-48), 3) := by decide +kernel
theorem dX0_copyStorm_57 : decode cX0_copyStorm 57 = .ok (.iload 4, 2) := by decide +kernel
theorem dX0_copyStorm_59 : decode cX0_copyStorm 59 = .ok (.ireturn, 1) := by decide +kernel
theorem dX1_init_0 : decode cX1_init 0 = .ok (.aload_n 0, 1) := by decide +kernel
theorem dX1_init_1 : decode cX1_init 1 = .ok (.invokespecial 3, 3) := by decide +kernel
theorem dX1_init_4 : decode cX1_init 4 = .ok (.aload_n 0, 1) := by decide +kernel
theorem dX1_init_5 : decode cX1_init 5 = .ok (.bipush 10, 2) := by decide +kernel
theorem dX1_init_7 : decode cX1_init 7 = .ok (.newarray .int, 2) := by decide +kernel
theorem dX1_init_9 : decode cX1_init 9 = .ok (.putfield 9, 3) := by decide +kernel
theorem dX1_init_12 : decode cX1_init 12 = .ok (.return_, 1) := by decide +kernel
theorem dX1_hear_0 : decode cX1_hear 0 = .ok (.aload_n 0, 1) := by decide +kernel
theorem dX1_hear_1 : decode cX1_hear 1 = .ok (.getfield 9, 3) := by decide +kernel
theorem dX1_hear_4 : decode cX1_hear 4 = .ok (.iload_n 2, 1) := by decide +kernel
theorem dX1_hear_5 : decode cX1_hear 5 = .ok (.iload_n 3, 1) := by decide +kernel
theorem dX1_hear_6 : decode cX1_hear 6 = .ok (.iastore, 1) := by decide +kernel
theorem dX1_hear_7 : decode cX1_hear 7 = .ok (.aload_n 0, 1) := by decide +kernel
theorem dX1_hear_8 : decode cX1_hear 8 = .ok (.iload_n 1, 1) := by decide +kernel
theorem dX1_hear_9 : decode cX1_hear 9 = .ok (.iconst 1, 1) := by decide +kernel
theorem dX1_hear_10 : decode cX1_hear 10 = .ok (.iadd, 1) := by decide +kernel
theorem dX1_hear_11 : decode cX1_hear 11 = .ok (.putfield 15, 3) := by decide +kernel
theorem dX1_hear_14 : decode cX1_hear 14 = .ok (.aload_n 0, 1) := by decide +kernel
theorem dX1_hear_15 : decode cX1_hear 15 = .ok (.dup, 1) := by decide +kernel
theorem dX1_hear_16 : decode cX1_hear 16 = .ok (.getfield 19, 3) := by decide +kernel
theorem dX1_hear_19 : decode cX1_hear 19 = .ok (.iconst 1, 1) := by decide +kernel
theorem dX1_hear_20 : decode cX1_hear 20 = .ok (.iadd, 1) := by decide +kernel
theorem dX1_hear_21 : decode cX1_hear 21 = .ok (.putfield 19, 3) := by decide +kernel
theorem dX1_hear_24 : decode cX1_hear 24 = .ok (.return_, 1) := by decide +kernel
end
section
set_option maxRecDepth 20000 in
theorem ggX2_init_X0_init : GoodIn wsX2_init wsX0_init := goodIn_r _ [17, 18, 2, 3, 8, 19, 20, 21, 22, 23, 24, 29, 30, 31, 32, 33, 34, 35, 36] (by decide +kernel) (by decide +kernel)
set_option maxRecDepth 20000 in
theorem gX2_init_X0_init_n9 : GoodIn wsX2_init (wsX0_init) := ggX2_init_X0_init
set_option maxRecDepth 20000 in
theorem ggX2_init_X1_init : GoodIn wsX2_init wsX1_init := goodIn_r _ [26, 27, 2, 3, 8, 28, 46, 47, 48, 49, 50] (by decide +kernel) (by decide +kernel)
set_option maxRecDepth 20000 in
theorem gX2_init_X1_init_n26 : GoodIn wsX2_init (wsX1_init) := ggX2_init_X1_init
theorem dX2_init_0 : decode cX2_init 0 = .ok (.aload_n 0, 1) := by decide +kernel
theorem dX2_init_1 : decode cX2_init 1 = .ok (.invokespecial 1, 3) := by decide +kernel
theorem dX2_init_4 : decode cX2_init 4 = .ok (.aload_n 0, 1) := by decide +kernel
theorem dX2_init_5 : decode cX2_init 5 = .ok (.new 7, 3) := by decide +kernel
theorem dX2_init_8 : decode cX2_init 8 = .ok (.dup, 1) := by decide +kernel
theorem dX2_init_9 : decode cX2_init 9 = .ok (.invokespecial 9, 3) := by decide +kernel
theorem dX2_init_12 : decode cX2_init 12 = .ok (.putfield 10, 3) := by decide +kernel
theorem dX2_init_15 : decode cX2_init 15 = .ok (.aload_n 0, 1) := by decide +kernel
theorem dX2_init_16 : decode cX2_init 16 = .ok (.bipush 8, 2) := by decide +kernel
theorem dX2_init_18 : decode cX2_init 18 = .ok (.newarray .int, 2) := by decide +kernel
theorem dX2_init_20 : decode cX2_init 20 = .ok (.putfield 16, 3) := by decide +kernel
theorem dX2_init_23 : decode cX2_init 23 = .ok (.aload_n 0, 1) := by decide +kernel
theorem dX2_init_24 : decode cX2_init 24 = .ok (.bipush 6, 2) := by decide +kernel
theorem dX2_init_26 : decode cX2_init 26 = .ok (.anewarray 20, 3) := by decide +kernel
theorem dX2_init_29 : decode cX2_init 29 = .ok (.putfield 22, 3) := by decide +kernel
theorem dX2_init_32 : decode cX2_init 32 = .ok (.iconst 0, 1) := by decide +kernel
theorem dX2_init_33 : decode cX2_init 33 = .ok (.istore_n 1, 1) := by decide +kernel
theorem dX2_init_34 : decode cX2_init 34 = .ok (.iload_n 1, 1) := by decide +kernel
theorem dX2_init_35 : decode cX2_init 35 = .ok (.bipush 6, 2) := by decide +kernel
theorem dX2_init_37 : decode cX2_init 37 = .ok (.if_icmp .ge 22, 3) := by decide +kernel
theorem dX2_init_40 : decode cX2_init 40 = .ok (.aload_n 0, 1) := by decide +kernel
theorem dX2_init_41 : decode cX2_init 41 = .ok (.getfield 22, 3) := by decide +kernel
theorem dX2_init_44 : decode cX2_init 44 = .ok (.iload_n 1, 1) := by decide +kernel
theorem dX2_init_45 : decode cX2_init 45 = .ok (.new 20, 3) := by decide +kernel
theorem dX2_init_48 : decode cX2_init 48 = .ok (.dup, 1) := by decide +kernel
theorem dX2_init_49 : decode cX2_init 49 = .ok (.invokespecial 26, 3) := by decide +kernel
theorem dX2_init_52 : decode cX2_init 52 = .ok (.aastore, 1) := by decide +kernel
theorem dX2_init_53 : decode cX2_init 53 = .ok (.iinc 1 1, 3) := by decide +kernel
theorem dX2_init_56 : decode cX2_init 56 = .ok (.goto (-22), 3) := by decide +kernel
theorem dX2_init_59 : decode cX2_init 59 = .ok (.aload_n 0, 1) := by decide +kernel
theorem dX2_init_60 : decode cX2_init 60 = .ok (.bipush 48, 2) := by decide +kernel
theorem dX2_init_62 : decode cX2_init 62 = .ok (.newarray .int, 2) := by decide +kernel
theorem dX2_init_64 : decode cX2_init 64 = .ok (.putfield 27, 3) := by decide +kernel
theorem dX2_init_67 : decode cX2_init 67 = .ok (.aload_n 0, 1) := by decide +kernel
theorem dX2_init_68 : decode cX2_init 68 = .ok (.bipush 48, 2) := by decide +kernel
theorem dX2_init_70 : decode cX2_init 70 = .ok (.newarray .int, 2) := by decide +kernel
theorem dX2_init_72 : decode cX2_init 72 = .ok (.putfield 30, 3) := by decide +kernel
theorem dX2_init_75 : decode cX2_init 75 = .ok (.return_, 1) := by decide +kernel
set_option maxRecDepth 20000 in
theorem ggX2_say_X2_isKey : GoodIn wsX2_say wsX2_isKey := goodIn_r _ [6] (by decide +kernel) (by decide +kernel)
set_option maxRecDepth 20000 in
theorem gX2_say_X2_isKey : GoodIn wsX2_say (va_wsS RX2 33 yX2_isKey wsX2_isKey) := goodIn_app (goodIn_of _ (by decide +kernel)) ggX2_say_X2_isKey
set_option maxRecDepth 20000 in
theorem ggX2_say_X2_speak : GoodIn wsX2_say wsX2_speak := goodIn_r _ [10, 11, 12, 13, 14, 15, 16, 17, 18, 19, 20, 21, 22, 23, 5, 24, 25, 26, 27, 28, 29, 30, 31, 32, 33, 34, 35, 36, 37, 38, 39, 40, 41, 42, 43, 44, 45, 46, 47, 48, 49, 50, 51, 52, 53, 54, 55, 56, 57, 58, 59, 60, 61, 62, 63, 64, 65, 66, 67] (by decide +kernel) (by decide +kernel)
set_option maxRecDepth 20000 in
theorem gX2_say_X2_speak : GoodIn wsX2_say (wsV RX2 46 RX2 yX2_speak wsX2_speak) := goodIn_app (goodIn_of _ (by decide +kernel)) ggX2_say_X2_speak
theorem dX2_say_0 : decode cX2_say 0 = .ok (.iload_n 1, 1) := by decide +kernel
theorem dX2_say_1 : decode cX2_say 1 = .ok (.invokestatic 33, 3) := by decide +kernel
theorem dX2_say_4 : decode cX2_say 4 = .ok (.ifCond .ne 13, 3) := by decide +kernel
theorem dX2_say_7 : decode cX2_say 7 = .ok (.new 37, 3) := by decide +kernel
theorem dX2_say_10 : decode cX2_say 10 = .ok (.dup, 1) := by decide +kernel
theorem dX2_say_11 : decode cX2_say 11 = .ok (.ldc 39, 2) := by decide +kernel
theorem dX2_say_13 : decode cX2_say 13 = .ok (.invokespecial 41, 3) := by decide +kernel
theorem dX2_say_16 : decode cX2_say 16 = .ok (.athrow, 1) := by decide +kernel
theorem dX2_say_17 : decode cX2_say 17 = .ok (.iload_n 2, 1) := by decide +kernel
theorem dX2_say_18 : decode cX2_say 18 = .ok (.sipush (-999), 3) := by decide +kernel
theorem dX2_say_21 : decode cX2_say 21 = .ok (.if_icmp .lt 10, 3) := by decide +kernel
theorem dX2_say_24 : decode cX2_say 24 = .ok (.iload_n 2, 1) := by decide +kernel
theorem dX2_say_25 : decode cX2_say 25 = .ok (.sipush 999, 3) := by decide +kernel
theorem dX2_say_28 : decode cX2_say 28 = .ok (.if_icmp .le 13, 3) := by decide +kernel
theorem dX2_say_31 : decode cX2_say 31 = .ok (.new 37, 3) := by decide +kernel
theorem dX2_say_34 : decode cX2_say 34 = .ok (.dup, 1) := by decide +kernel
theorem dX2_say_35 : decode cX2_say 35 = .ok (.ldc 44, 2) := by decide +kernel
theorem dX2_say_37 : decode cX2_say 37 = .ok (.invokespecial 41, 3) := by decide +kernel
theorem dX2_say_40 : decode cX2_say 40 = .ok (.athrow, 1) := by decide +kernel
theorem dX2_say_41 : decode cX2_say 41 = .ok (.aload_n 0, 1) := by decide +kernel
theorem dX2_say_42 : decode cX2_say 42 = .ok (.iload_n 1, 1) := by decide +kernel
theorem dX2_say_43 : decode cX2_say 43 = .ok (.iload_n 2, 1) := by decide +kernel
theorem dX2_say_44 : decode cX2_say 44 = .ok (.invokevirtual 46, 3) := by decide +kernel
theorem dX2_say_47 : decode cX2_say 47 = .ok (.ireturn, 1) := by decide +kernel
theorem dX2_startStorm_0 : decode cX2_startStorm 0 = .ok (.aload_n 0, 1) := by decide +kernel
theorem dX2_startStorm_1 : decode cX2_startStorm 1 = .ok (.getfield 50, 3) := by decide +kernel
theorem dX2_startStorm_4 : decode cX2_startStorm 4 = .ok (.ifCond .eq 13, 3) := by decide +kernel
theorem dX2_startStorm_7 : decode cX2_startStorm 7 = .ok (.new 54, 3) := by decide +kernel
theorem dX2_startStorm_10 : decode cX2_startStorm 10 = .ok (.dup, 1) := by decide +kernel
theorem dX2_startStorm_11 : decode cX2_startStorm 11 = .ok (.ldc 56, 2) := by decide +kernel
theorem dX2_startStorm_13 : decode cX2_startStorm 13 = .ok (.invokespecial 58, 3) := by decide +kernel
theorem dX2_startStorm_16 : decode cX2_startStorm 16 = .ok (.athrow, 1) := by decide +kernel
theorem dX2_startStorm_17 : decode cX2_startStorm 17 = .ok (.aload_n 0, 1) := by decide +kernel
theorem dX2_startStorm_18 : decode cX2_startStorm 18 = .ok (.getfield 59, 3) := by decide +kernel
theorem dX2_startStorm_21 : decode cX2_startStorm 21 = .ok (.bipush 8, 2) := by decide +kernel
theorem dX2_startStorm_23 : decode cX2_startStorm 23 = .ok (.if_icmp .lt 13, 3) := by decide +kernel
theorem dX2_startStorm_26 : decode cX2_startStorm 26 = .ok (.new 54, 3) := by decide +kernel
theorem dX2_startStorm_29 : decode cX2_startStorm 29 = .ok (.dup, 1) := by decide +kernel
theorem dX2_startStorm_30 : decode cX2_startStorm 30 = .ok (.ldc 63, 2) := by decide +kernel
theorem dX2_startStorm_32 : decode cX2_startStorm 32 = .ok (.invokespecial 58, 3) := by decide +kernel
theorem dX2_startStorm_35 : decode cX2_startStorm 35 = .ok (.athrow, 1) := by decide +kernel
theorem dX2_startStorm_36 : decode cX2_startStorm 36 = .ok (.aload_n 0, 1) := by decide +kernel
theorem dX2_startStorm_37 : decode cX2_startStorm 37 = .ok (.iconst 1, 1) := by decide +kernel
theorem dX2_startStorm_38 : decode cX2_startStorm 38 = .ok (.putfield 50, 3) := by decide +kernel
theorem dX2_startStorm_41 : decode cX2_startStorm 41 = .ok (.aload_n 0, 1) := by decide +kernel
theorem dX2_startStorm_42 : decode cX2_startStorm 42 = .ok (.dup, 1) := by decide +kernel
theorem dX2_startStorm_43 : decode cX2_startStorm 43 = .ok (.getfield 59, 3) := by decide +kernel
theorem dX2_startStorm_46 : decode cX2_startStorm 46 = .ok (.iconst 1, 1) := by decide +kernel
theorem dX2_startStorm_47 : decode cX2_startStorm 47 = .ok (.iadd, 1) := by decide +kernel
theorem dX2_startStorm_48 : decode cX2_startStorm 48 = .ok (.putfield 59, 3) := by decide +kernel
theorem dX2_startStorm_51 : decode cX2_startStorm 51 = .ok (.aload_n 0, 1) := by decide +kernel
theorem dX2_startStorm_52 : decode cX2_startStorm 52 = .ok (.getfield 59, 3) := by decide +kernel
theorem dX2_startStorm_55 : decode cX2_startStorm 55 = .ok (.iconst 1, 1) := by decide +kernel
theorem dX2_startStorm_56 : decode cX2_startStorm 56 = .ok (.isub, 1) := by decide +kernel
theorem dX2_startStorm_57 : decode cX2_startStorm 57 = .ok (.ireturn, 1) := by decide +kernel
theorem dX2_endStorm_0 : decode cX2_endStorm 0 = .ok (.aload_n 0, 1) := by decide +kernel
theorem dX2_endStorm_1 : decode cX2_endStorm 1 = .ok (.getfield 50, 3) := by decide +kernel
theorem dX2_endStorm_4 : decode cX2_endStorm 4 = .ok (.ifCond .ne 13, 3) := by decide +kernel
theorem dX2_endStorm_7 : decode cX2_endStorm 7 = .ok (.new 54, 3) := by decide +kernel
theorem dX2_endStorm_10 : decode cX2_endStorm 10 = .ok (.dup, 1) := by decide +kernel
theorem dX2_endStorm_11 : decode cX2_endStorm 11 = .ok (.ldc 65, 2) := by decide +kernel
theorem dX2_endStorm_13 : decode cX2_endStorm 13 = .ok (.invokespecial 58, 3) := by decide +kernel
theorem dX2_endStorm_16 : decode cX2_endStorm 16 = .ok (.athrow, 1) := by decide +kernel
theorem dX2_endStorm_17 : decode cX2_endStorm 17 = .ok (.aload_n 0, 1) := by decide +kernel
theorem dX2_endStorm_18 : decode cX2_endStorm 18 = .ok (.iconst 0, 1) := by decide +kernel
theorem dX2_endStorm_19 : decode cX2_endStorm 19 = .ok (.putfield 50, 3) := by decide +kernel
theorem dX2_endStorm_22 : decode cX2_endStorm 22 = .ok (.aload_n 0, 1) := by decide +kernel
theorem dX2_endStorm_23 : decode cX2_endStorm 23 = .ok (.getfield 16, 3) := by decide +kernel
theorem dX2_endStorm_26 : decode cX2_endStorm 26 = .ok (.aload_n 0, 1) := by decide +kernel
theorem dX2_endStorm_27 : decode cX2_endStorm 27 = .ok (.getfield 59, 3) := by decide +kernel
theorem dX2_endStorm_30 : decode cX2_endStorm 30 = .ok (.iconst 1, 1) := by decide +kernel
theorem dX2_endStorm_31 : decode cX2_endStorm 31 = .ok (.isub, 1) := by decide +kernel
theorem dX2_endStorm_32 : decode cX2_endStorm 32 = .ok (.iaload, 1) := by decide +kernel
theorem dX2_endStorm_33 : decode cX2_endStorm 33 = .ok (.ireturn, 1) := by decide +kernel
set_option maxRecDepth 20000 in
theorem ggX2_replay_X2_checkStorm : GoodIn wsX2_replay wsX2_checkStorm := goodIn_ca (goodIn_r _ [11, 12, 13, 14, 54, 55, 56, 57, 58, 59, 60, 61, 62] (by decide +kernel) (by decide +kernel)) (goodIn_sub (fun _ h => List.mem_cons_of_mem _ (List.mem_append_right _ h)) (by decide +kernel))
set_option maxRecDepth 20000 in
theorem gX2_replay_X2_checkStorm : GoodIn wsX2_replay (wsV RX2 67 RX2 yX2_checkStorm wsX2_checkStorm) := goodIn_app (goodIn_of _ (by decide +kernel)) ggX2_replay_X2_checkStorm
set_option maxRecDepth 20000 in
theorem ggX2_replay_X0_copyStorm : GoodIn wsX2_replay wsX0_copyStorm := goodIn_r _ [18, 19, 20, 21, 22, 63, 64, 65, 66, 67, 68, 69, 70] (by decide +kernel) (by decide +kernel)
set_option maxRecDepth 20000 in
theorem gX2_replay_X0_copyStorm_n71 : GoodIn wsX2_replay (wsX0_copyStorm) := ggX2_replay_X0_copyStorm
set_option maxRecDepth 20000 in
theorem ggX2_replay_X2_speak : GoodIn wsX2_replay wsX2_speak := goodIn_r _ [26, 4, 3, 14, 27, 28, 16, 29, 30, 19, 31, 32, 33, 34, 10, 35, 36, 37, 38, 39, 40, 41, 42, 43, 44, 45, 46, 47, 48, 21, 22, 20, 49, 50, 51, 52, 53, 54, 55, 56, 57, 58, 59, 60, 61, 62, 63, 64, 65, 66, 67, 68, 69, 70, 71, 72, 73, 74, 75] (by decide +kernel) (by decide +kernel)
set_option maxRecDepth 20000 in
theorem gX2_replay_X2_speak : GoodIn wsX2_replay (wsV RX2 46 RX2 yX2_speak wsX2_speak) := goodIn_app (goodIn_of _ (by decide +kernel)) ggX2_replay_X2_speak
theorem dX2_replay_0 : decode cX2_replay 0 = .ok (.aload_n 0, 1) := by decide +kernel
theorem dX2_replay_1 : decode cX2_replay 1 = .ok (.iload_n 1, 1) := by decide +kernel
theorem dX2_replay_2 : decode cX2_replay 2 = .ok (.invokevirtual 67, 3) := by decide +kernel
theorem dX2_replay_5 : decode cX2_replay 5 = .ok (.aload_n 0, 1) := by decide +kernel
theorem dX2_replay_6 : decode cX2_replay 6 = .ok (.getfield 50, 3) := by decide +kernel
theorem dX2_replay_9 : decode cX2_replay 9 = .ok (.ifCond .eq 13, 3) := by decide +kernel
theorem dX2_replay_12 : decode cX2_replay 12 = .ok (.new 54, 3) := by decide +kernel
theorem dX2_replay_15 : decode cX2_replay 15 = .ok (.dup, 1) := by decide +kernel
theorem dX2_replay_16 : decode cX2_replay 16 = .ok (.ldc 56, 2) := by decide +kernel
theorem dX2_replay_18 : decode cX2_replay 18 = .ok (.invokespecial 58, 3) := by decide +kernel
theorem dX2_replay_21 : decode cX2_replay 21 = .ok (.athrow, 1) := by decide +kernel
theorem dX2_replay_22 : decode cX2_replay 22 = .ok (.aload_n 0, 1) := by decide +kernel
theorem dX2_replay_23 : decode cX2_replay 23 = .ok (.getfield 10, 3) := by decide +kernel
theorem dX2_replay_26 : decode cX2_replay 26 = .ok (.iload_n 1, 1) := by decide +kernel
theorem dX2_replay_27 : decode cX2_replay 27 = .ok (.aload_n 0, 1) := by decide +kernel
theorem dX2_replay_28 : decode cX2_replay 28 = .ok (.getfield 27, 3) := by decide +kernel
theorem dX2_replay_31 : decode cX2_replay 31 = .ok (.aload_n 0, 1) := by decide +kernel
theorem dX2_replay_32 : decode cX2_replay 32 = .ok (.getfield 30, 3) := by decide +kernel
theorem dX2_replay_35 : decode cX2_replay 35 = .ok (.invokevirtual 71, 3) := by decide +kernel
theorem dX2_replay_38 : decode cX2_replay 38 = .ok (.istore_n 2, 1) := by decide +kernel
theorem dX2_replay_39 : decode cX2_replay 39 = .ok (.iconst 0, 1) := by decide +kernel
theorem dX2_replay_40 : decode cX2_replay 40 = .ok (.istore_n 3, 1) := by decide +kernel
theorem dX2_replay_41 : decode cX2_replay 41 = .ok (.iload_n 3, 1) := by decide +kernel
theorem dX2_replay_42 : decode cX2_replay 42 = .ok (.iload_n 2, 1) := by decide +kernel
theorem dX2_replay_43 : decode cX2_replay 43 = .ok (.if_icmp .ge 26, 3) := by decide +kernel
theorem dX2_replay_46 : decode cX2_replay 46 = .ok (.aload_n 0, 1) := by decide +kernel
theorem dX2_replay_47 : decode cX2_replay 47 = .ok (.aload_n 0, 1) := by decide +kernel
theorem dX2_replay_48 : decode cX2_replay 48 = .ok (.getfield 27, 3) := by decide +kernel
theorem dX2_replay_51 : decode cX2_replay 51 = .ok (.iload_n 3, 1) := by decide +kernel
theorem dX2_replay_52 : decode cX2_replay 52 = .ok (.iaload, 1) := by decide +kernel
theorem dX2_replay_53 : decode cX2_replay 53 = .ok (.aload_n 0, 1) := by decide +kernel
theorem dX2_replay_54 : decode cX2_replay 54 = .ok (.getfield 30, 3) := by decide +kernel
theorem dX2_replay_57 : decode cX2_replay 57 = .ok (.iload_n 3, 1) := by decide +kernel
theorem dX2_replay_58 : decode cX2_replay 58 = .ok (.iaload, 1) := by decide +kernel
theorem dX2_replay_59 : decode cX2_replay 59 = .ok (.invokevirtual 46, 3) := by decide +kernel
theorem dX2_replay_62 : decode cX2_replay 62 = .ok (.pop, 1) := by decide +kernel
theorem dX2_replay_63 : decode cX2_replay 63 = .ok (.iinc 3 1, 3) := by decide +kernel
theorem dX2_replay_66 : decode cX2_replay 66 = .ok (.goto (-25), 3) := by decide +kernel
theorem dX2_replay_69 : decode cX2_replay 69 = .ok (.iload_n 2, 1) := by decide +kernel
theorem dX2_replay_70 : decode cX2_replay 70 = .ok (.ireturn, 1) := by decide +kernel
set_option maxRecDepth 20000 in
theorem ggX2_compact_X2_markCompacted : GoodIn wsX2_compact wsX2_markCompacted := goodIn_r _ [5, 6, 7, 8, 9, 4, 10, 11, 12, 13, 14, 15, 16, 17, 18, 19, 20, 21, 22, 23, 24, 25, 26, 27, 28, 29, 46, 47, 48, 49, 50, 51, 52, 53, 54, 55, 56, 57, 58, 59, 60, 61, 62, 63, 64, 65, 66, 67] (by decide +kernel) (by decide +kernel)
set_option maxRecDepth 20000 in
theorem gX2_compact_X2_markCompacted : GoodIn wsX2_compact (wsV RX2 75 RX2 yX2_markCompacted wsX2_markCompacted) := goodIn_app (goodIn_of _ (by decide +kernel)) ggX2_compact_X2_markCompacted
set_option maxRecDepth 20000 in
theorem ggX2_compact_X2_dropMarked : GoodIn wsX2_compact wsX2_dropMarked := goodIn_r _ [33, 11, 12, 6, 34, 18, 35, 36, 21, 25, 37, 38, 39, 40, 24, 41, 42, 43, 22, 23, 44, 45, 46, 47, 48, 49, 50, 51, 52, 53, 54, 63, 64, 65, 66, 67, 55, 56, 57, 58, 59, 60, 61, 62] (by decide +kernel) (by decide +kernel)
set_option maxRecDepth 20000 in
theorem gX2_compact_X2_dropMarked : GoodIn wsX2_compact (wsV RX2 78 RX2 yX2_dropMarked wsX2_dropMarked) := goodIn_app (goodIn_of _ (by decide +kernel)) ggX2_compact_X2_dropMarked
theorem dX2_compact_0 : decode cX2_compact 0 = .ok (.aload_n 0, 1) := by decide +kernel
theorem dX2_compact_1 : decode cX2_compact 1 = .ok (.invokevirtual 75, 3) := by decide +kernel
theorem dX2_compact_4 : decode cX2_compact 4 = .ok (.aload_n 0, 1) := by decide +kernel
theorem dX2_compact_5 : decode cX2_compact 5 = .ok (.invokevirtual 78, 3) := by decide +kernel
theorem dX2_compact_8 : decode cX2_compact 8 = .ok (.ireturn, 1) := by decide +kernel
set_option maxRecDepth 20000 in
theorem ggX2_trimTo_X2_checkReachable : GoodIn wsX2_trimTo wsX2_checkReachable := goodIn_ca (goodIn_r _ [6, 7, 8, 1, 36, 37, 38, 39, 40, 41, 42, 43, 44, 45, 46, 47, 48, 49, 50, 51, 52] (by decide +kernel) (by decide +kernel)) (goodIn_sub (fun _ h => List.mem_cons_of_mem _ (List.mem_append_right _ h)) (by decide +kernel))
set_option maxRecDepth 20000 in
theorem gX2_trimTo_X2_checkReachable : GoodIn wsX2_trimTo (wsV RX2 82 RX2 yX2_checkReachable wsX2_checkReachable) := goodIn_app (goodIn_of _ (by decide +kernel)) ggX2_trimTo_X2_checkReachable
set_option maxRecDepth 20000 in
theorem ggX2_trimTo_X0_markAhead : GoodIn wsX2_trimTo wsX0_markAhead := goodIn_r _ [12, 13, 14, 15, 45, 46, 47, 48, 49, 50, 51, 52] (by decide +kernel) (by decide +kernel)
set_option maxRecDepth 20000 in
theorem gX2_trimTo_X0_markAhead_n85 : GoodIn wsX2_trimTo (wsX0_markAhead) := ggX2_trimTo_X0_markAhead
set_option maxRecDepth 20000 in
theorem ggX2_trimTo_X2_dropMarked : GoodIn wsX2_trimTo wsX2_dropMarked := goodIn_r _ [19, 20, 21, 1, 22, 10, 23, 24, 13, 14, 25, 26, 27, 28, 15, 29, 30, 31, 32, 33, 34, 35, 36, 37, 38, 39, 40, 41, 42, 43, 44, 53, 54, 55, 56, 57, 45, 46, 47, 48, 49, 50, 51, 52] (by decide +kernel) (by decide +kernel)
set_option maxRecDepth 20000 in
theorem gX2_trimTo_X2_dropMarked : GoodIn wsX2_trimTo (wsV RX2 78 RX2 yX2_dropMarked wsX2_dropMarked) := goodIn_app (goodIn_of _ (by decide +kernel)) ggX2_trimTo_X2_dropMarked
theorem dX2_trimTo_0 : decode cX2_trimTo 0 = .ok (.aload_n 0, 1) := by decide +kernel
theorem dX2_trimTo_1 : decode cX2_trimTo 1 = .ok (.iload_n 1, 1) := by decide +kernel
theorem dX2_trimTo_2 : decode cX2_trimTo 2 = .ok (.invokevirtual 82, 3) := by decide +kernel
theorem dX2_trimTo_5 : decode cX2_trimTo 5 = .ok (.aload_n 0, 1) := by decide +kernel
theorem dX2_trimTo_6 : decode cX2_trimTo 6 = .ok (.getfield 10, 3) := by decide +kernel
theorem dX2_trimTo_9 : decode cX2_trimTo 9 = .ok (.iload_n 1, 1) := by decide +kernel
theorem dX2_trimTo_10 : decode cX2_trimTo 10 = .ok (.invokevirtual 85, 3) := by decide +kernel
theorem dX2_trimTo_13 : decode cX2_trimTo 13 = .ok (.aload_n 0, 1) := by decide +kernel
theorem dX2_trimTo_14 : decode cX2_trimTo 14 = .ok (.invokevirtual 78, 3) := by decide +kernel
theorem dX2_trimTo_17 : decode cX2_trimTo 17 = .ok (.ireturn, 1) := by decide +kernel
set_option maxRecDepth 20000 in
theorem ggX2_addShip_X2_checkReachable : GoodIn wsX2_addShip wsX2_checkReachable := goodIn_ca (goodIn_r _ [11, 1, 2, 12, 13, 14, 15, 16, 17, 18, 19, 20, 21, 27, 28, 29, 30, 31, 32, 33, 34] (by decide +kernel) (by decide +kernel)) (goodIn_sub (fun _ h => List.mem_cons_of_mem _ (List.mem_append_left _ (List.mem_append_right _ h))) (by decide +kernel))
set_option maxRecDepth 20000 in
theorem gX2_addShip_X2_checkReachable : GoodIn wsX2_addShip (wsV RX2 82 RX2 yX2_checkReachable wsX2_checkReachable) := goodIn_app (goodIn_of _ (by decide +kernel)) ggX2_addShip_X2_checkReachable
theorem dX2_addShip_0 : decode cX2_addShip 0 = .ok (.iload_n 1, 1) := by decide +kernel
theorem dX2_addShip_1 : decode cX2_addShip 1 = .ok (.iconst 1, 1) := by decide +kernel
theorem dX2_addShip_2 : decode cX2_addShip 2 = .ok (.if_icmp .lt 8, 3) := by decide +kernel
theorem dX2_addShip_5 : decode cX2_addShip 5 = .ok (.iload_n 1, 1) := by decide +kernel
theorem dX2_addShip_6 : decode cX2_addShip 6 = .ok (.iconst 5, 1) := by decide +kernel
theorem dX2_addShip_7 : decode cX2_addShip 7 = .ok (.if_icmp .le 13, 3) := by decide +kernel
theorem dX2_addShip_10 : decode cX2_addShip 10 = .ok (.new 37, 3) := by decide +kernel
theorem dX2_addShip_13 : decode cX2_addShip 13 = .ok (.dup, 1) := by decide +kernel
theorem dX2_addShip_14 : decode cX2_addShip 14 = .ok (.ldc 88, 2) := by decide +kernel
theorem dX2_addShip_16 : decode cX2_addShip 16 = .ok (.invokespecial 41, 3) := by decide +kernel
theorem dX2_addShip_19 : decode cX2_addShip 19 = .ok (.athrow, 1) := by decide +kernel
theorem dX2_addShip_20 : decode cX2_addShip 20 = .ok (.aload_n 0, 1) := by decide +kernel
theorem dX2_addShip_21 : decode cX2_addShip 21 = .ok (.iload_n 2, 1) := by decide +kernel
theorem dX2_addShip_22 : decode cX2_addShip 22 = .ok (.invokevirtual 82, 3) := by decide +kernel
theorem dX2_addShip_25 : decode cX2_addShip 25 = .ok (.aload_n 0, 1) := by decide +kernel
theorem dX2_addShip_26 : decode cX2_addShip 26 = .ok (.getfield 90, 3) := by decide +kernel
theorem dX2_addShip_29 : decode cX2_addShip 29 = .ok (.bipush 6, 2) := by decide +kernel
theorem dX2_addShip_31 : decode cX2_addShip 31 = .ok (.if_icmp .lt 13, 3) := by decide +kernel
theorem dX2_addShip_34 : decode cX2_addShip 34 = .ok (.new 54, 3) := by decide +kernel
theorem dX2_addShip_37 : decode cX2_addShip 37 = .ok (.dup, 1) := by decide +kernel
theorem dX2_addShip_38 : decode cX2_addShip 38 = .ok (.ldc 93, 2) := by decide +kernel
theorem dX2_addShip_40 : decode cX2_addShip 40 = .ok (.invokespecial 58, 3) := by decide +kernel
theorem dX2_addShip_43 : decode cX2_addShip 43 = .ok (.athrow, 1) := by decide +kernel
theorem dX2_addShip_44 : decode cX2_addShip 44 = .ok (.aload_n 0, 1) := by decide +kernel
theorem dX2_addShip_45 : decode cX2_addShip 45 = .ok (.getfield 22, 3) := by decide +kernel
theorem dX2_addShip_48 : decode cX2_addShip 48 = .ok (.aload_n 0, 1) := by decide +kernel
theorem dX2_addShip_49 : decode cX2_addShip 49 = .ok (.getfield 90, 3) := by decide +kernel
theorem dX2_addShip_52 : decode cX2_addShip 52 = .ok (.aaload, 1) := by decide +kernel
theorem dX2_addShip_53 : decode cX2_addShip 53 = .ok (.astore_n 3, 1) := by decide +kernel
theorem dX2_addShip_54 : decode cX2_addShip 54 = .ok (.aload_n 3, 1) := by decide +kernel
theorem dX2_addShip_55 : decode cX2_addShip 55 = .ok (.iload_n 1, 1) := by decide +kernel
theorem dX2_addShip_56 : decode cX2_addShip 56 = .ok (.putfield 95, 3) := by decide +kernel
theorem dX2_addShip_59 : decode cX2_addShip 59 = .ok (.aload_n 3, 1) := by decide +kernel
theorem dX2_addShip_60 : decode cX2_addShip 60 = .ok (.iload_n 2, 1) := by decide +kernel
theorem dX2_addShip_61 : decode cX2_addShip 61 = .ok (.putfield 98, 3) := by decide +kernel
theorem dX2_addShip_64 : decode cX2_addShip 64 = .ok (.aload_n 0, 1) := by decide +kernel
theorem dX2_addShip_65 : decode cX2_addShip 65 = .ok (.dup, 1) := by decide +kernel
theorem dX2_addShip_66 : decode cX2_addShip 66 = .ok (.getfield 90, 3) := by decide +kernel
theorem dX2_addShip_69 : decode cX2_addShip 69 = .ok (.iconst 1, 1) := by decide +kernel
theorem dX2_addShip_70 : decode cX2_addShip 70 = .ok (.iadd, 1) := by decide +kernel
theorem dX2_addShip_71 : decode cX2_addShip 71 = .ok (.putfield 90, 3) := by decide +kernel
theorem dX2_addShip_74 : decode cX2_addShip 74 = .ok (.aload_n 0, 1) := by decide +kernel
theorem dX2_addShip_75 : decode cX2_addShip 75 = .ok (.getfield 90, 3) := by decide +kernel
theorem dX2_addShip_78 : decode cX2_addShip 78 = .ok (.iconst 1, 1) := by decide +kernel
theorem dX2_addShip_79 : decode cX2_addShip 79 = .ok (.isub, 1) := by decide +kernel
theorem dX2_addShip_80 : decode cX2_addShip 80 = .ok (.ireturn, 1) := by decide +kernel
set_option maxRecDepth 20000 in
theorem ggX2_seek_X2_shipNumbered : GoodIn wsX2_seek wsX2_shipNumbered := goodIn_ca (goodIn_r _ [5, 6, 7, 8, 9, 22, 23, 24, 25, 26, 27, 28, 29, 30] (by decide +kernel) (by decide +kernel)) (goodIn_sub (fun _ h => List.mem_cons_of_mem _ (List.mem_append_left _ (List.mem_append_right _ h))) (by decide +kernel))
set_option maxRecDepth 20000 in
theorem gX2_seek_X2_shipNumbered : GoodIn wsX2_seek (wsV RX2 101 RX2 yX2_shipNumbered wsX2_shipNumbered) := goodIn_app (goodIn_of _ (by decide +kernel)) ggX2_seek_X2_shipNumbered
set_option maxRecDepth 20000 in
theorem ggX2_seek_X2_checkReachable : GoodIn wsX2_seek wsX2_checkReachable := goodIn_ca (goodIn_r _ [13, 14, 15, 16, 22, 23, 24, 25, 26, 27, 28, 29, 30, 31, 32, 33, 34, 35, 36, 37, 38] (by decide +kernel) (by decide +kernel)) (goodIn_sub (fun _ h => List.mem_cons_of_mem _ (List.mem_append_right _ h)) (by decide +kernel))
set_option maxRecDepth 20000 in
theorem gX2_seek_X2_checkReachable : GoodIn wsX2_seek (wsV RX2 82 RX2 yX2_checkReachable wsX2_checkReachable) := goodIn_app (goodIn_of _ (by decide +kernel)) ggX2_seek_X2_checkReachable
theorem dX2_seek_0 : decode cX2_seek 0 = .ok (.aload_n 0, 1) := by decide +kernel
theorem dX2_seek_1 : decode cX2_seek 1 = .ok (.iload_n 1, 1) := by decide +kernel
theorem dX2_seek_2 : decode cX2_seek 2 = .ok (.invokevirtual 101, 3) := by decide +kernel
theorem dX2_seek_5 : decode cX2_seek 5 = .ok (.astore_n 3, 1) := by decide +kernel
theorem dX2_seek_6 : decode cX2_seek 6 = .ok (.aload_n 0, 1) := by decide +kernel
theorem dX2_seek_7 : decode cX2_seek 7 = .ok (.iload_n 2, 1) := by decide +kernel
theorem dX2_seek_8 : decode cX2_seek 8 = .ok (.invokevirtual 82, 3) := by decide +kernel
theorem dX2_seek_11 : decode cX2_seek 11 = .ok (.aload_n 3, 1) := by decide +kernel
theorem dX2_seek_12 : decode cX2_seek 12 = .ok (.getfield 98, 3) := by decide +kernel
theorem dX2_seek_15 : decode cX2_seek 15 = .ok (.istore 4, 2) := by decide +kernel
theorem dX2_seek_17 : decode cX2_seek 17 = .ok (.aload_n 3, 1) := by decide +kernel
theorem dX2_seek_18 : decode cX2_seek 18 = .ok (.iload_n 2, 1) := by decide +kernel
theorem dX2_seek_19 : decode cX2_seek 19 = .ok (.putfield 98, 3) := by decide +kernel
theorem dX2_seek_22 : decode cX2_seek 22 = .ok (.iload 4, 2) := by decide +kernel
theorem dX2_seek_24 : decode cX2_seek 24 = .ok (.ireturn, 1) := by decide +kernel
set_option maxRecDepth 20000 in
theorem ggX2_passHours_X2_checkHours : GoodIn wsX2_passHours wsX2_checkHours := goodIn_ca (goodIn_r _ [7, 8, 9] (by decide +kernel) (by decide +kernel)) (goodIn_sub (fun _ h => List.mem_cons_of_mem _ (List.mem_append_right _ h)) (by decide +kernel))
set_option maxRecDepth 20000 in
theorem gX2_passHours_X2_checkHours : GoodIn wsX2_passHours (va_wsS RX2 105 yX2_checkHours wsX2_checkHours) := goodIn_app (goodIn_of _ (by decide +kernel)) ggX2_passHours_X2_checkHours
set_option maxRecDepth 20000 in
theorem ggX2_passHours_X2_mostHeard : GoodIn wsX2_passHours wsX2_mostHeard := goodIn_r _ [13, 14, 37, 38, 39, 40, 41, 42, 43, 44, 45] (by decide +kernel) (by decide +kernel)
set_option maxRecDepth 20000 in
theorem gX2_passHours_X2_mostHeard : GoodIn wsX2_passHours (wsV RX2 108 RX2 yX2_mostHeard wsX2_mostHeard) := goodIn_app (goodIn_of _ (by decide +kernel)) ggX2_passHours_X2_mostHeard
set_option maxRecDepth 20000 in
theorem ggX2_passHours_X2_hearNext : GoodIn wsX2_passHours wsX2_hearNext := goodIn_r _ [18, 19, 20, 21, 22, 23, 24, 25, 26, 27, 28, 29, 30, 31, 32, 33, 34, 35, 36, 37, 38, 39, 40, 41, 42, 43, 44, 45, 46, 47, 48, 49, 50, 51, 52, 53, 54, 55, 56, 57, 58] (by decide +kernel) (by decide +kernel)
set_option maxRecDepth 20000 in
theorem gX2_passHours_X2_hearNext : GoodIn wsX2_passHours (wsV RX2 111 RX2 yX2_hearNext wsX2_hearNext) := goodIn_app (goodIn_of _ (by decide +kernel)) ggX2_passHours_X2_hearNext
theorem dX2_passHours_0 : decode cX2_passHours 0 = .ok (.iload_n 1, 1) := by decide +kernel
theorem dX2_passHours_1 : decode cX2_passHours 1 = .ok (.invokestatic 105, 3) := by decide +kernel
theorem dX2_passHours_4 : decode cX2_passHours 4 = .ok (.iconst 0, 1) := by decide +kernel
theorem dX2_passHours_5 : decode cX2_passHours 5 = .ok (.istore_n 2, 1) := by decide +kernel
theorem dX2_passHours_6 : decode cX2_passHours 6 = .ok (.iconst 0, 1) := by decide +kernel
theorem dX2_passHours_7 : decode cX2_passHours 7 = .ok (.istore_n 3, 1) := by decide +kernel
theorem dX2_passHours_8 : decode cX2_passHours 8 = .ok (.iload_n 3, 1) := by decide +kernel
theorem dX2_passHours_9 : decode cX2_passHours 9 = .ok (.aload_n 0, 1) := by decide +kernel
theorem dX2_passHours_10 : decode cX2_passHours 10 = .ok (.getfield 90, 3) := by decide +kernel
theorem dX2_passHours_13 : decode cX2_passHours 13 = .ok (.if_icmp .ge 36, 3) := by decide +kernel
theorem dX2_passHours_16 : decode cX2_passHours 16 = .ok (.iload_n 2, 1) := by decide +kernel
theorem dX2_passHours_17 : decode cX2_passHours 17 = .ok (.aload_n 0, 1) := by decide +kernel
theorem dX2_passHours_18 : decode cX2_passHours 18 = .ok (.aload_n 0, 1) := by decide +kernel
theorem dX2_passHours_19 : decode cX2_passHours 19 = .ok (.getfield 22, 3) := by decide +kernel
theorem dX2_passHours_22 : decode cX2_passHours 22 = .ok (.iload_n 3, 1) := by decide +kernel
theorem dX2_passHours_23 : decode cX2_passHours 23 = .ok (.aaload, 1) := by decide +kernel
theorem dX2_passHours_24 : decode cX2_passHours 24 = .ok (.aload_n 0, 1) := by decide +kernel
theorem dX2_passHours_25 : decode cX2_passHours 25 = .ok (.iload_n 1, 1) := by decide +kernel
theorem dX2_passHours_26 : decode cX2_passHours 26 = .ok (.aload_n 0, 1) := by decide +kernel
theorem dX2_passHours_27 : decode cX2_passHours 27 = .ok (.getfield 22, 3) := by decide +kernel
theorem dX2_passHours_30 : decode cX2_passHours 30 = .ok (.iload_n 3, 1) := by decide +kernel
theorem dX2_passHours_31 : decode cX2_passHours 31 = .ok (.aaload, 1) := by decide +kernel
theorem dX2_passHours_32 : decode cX2_passHours 32 = .ok (.getfield 95, 3) := by decide +kernel
theorem dX2_passHours_35 : decode cX2_passHours 35 = .ok (.invokevirtual 108, 3) := by decide +kernel
theorem dX2_passHours_38 : decode cX2_passHours 38 = .ok (.invokevirtual 111, 3) := by decide +kernel
theorem dX2_passHours_41 : decode cX2_passHours 41 = .ok (.iadd, 1) := by decide +kernel
theorem dX2_passHours_42 : decode cX2_passHours 42 = .ok (.istore_n 2, 1) := by decide +kernel
theorem dX2_passHours_43 : decode cX2_passHours 43 = .ok (.iinc 3 1, 3) := by decide +kernel
theorem dX2_passHours_46 : decode cX2_passHours 46 = .ok (.goto (-38), 3) := by decide +kernel
theorem dX2_passHours_49 : decode cX2_passHours 49 = .ok (.aload_n 0, 1) := by decide +kernel
theorem dX2_passHours_50 : decode cX2_passHours 50 = .ok (.dup, 1) := by decide +kernel
theorem dX2_passHours_51 : decode cX2_passHours 51 = .ok (.getfield 115, 3) := by decide +kernel
theorem dX2_passHours_54 : decode cX2_passHours 54 = .ok (.iload_n 1, 1) := by decide +kernel
theorem dX2_passHours_55 : decode cX2_passHours 55 = .ok (.iadd, 1) := by decide +kernel
theorem dX2_passHours_56 : decode cX2_passHours 56 = .ok (.putfield 115, 3) := by decide +kernel
theorem dX2_passHours_59 : decode cX2_passHours 59 = .ok (.iload_n 2, 1) := by decide +kernel
theorem dX2_passHours_60 : decode cX2_passHours 60 = .ok (.ireturn, 1) := by decide +kernel
theorem dX2_hours_0 : decode cX2_hours 0 = .ok (.aload_n 0, 1) := by decide +kernel
theorem dX2_hours_1 : decode cX2_hours 1 = .ok (.getfield 115, 3) := by decide +kernel
theorem dX2_hours_4 : decode cX2_hours 4 = .ok (.ireturn, 1) := by decide +kernel
theorem dX2_phrases_0 : decode cX2_phrases 0 = .ok (.aload_n 0, 1) := by decide +kernel
theorem dX2_phrases_1 : decode cX2_phrases 1 = .ok (.getfield 10, 3) := by decide +kernel
theorem dX2_phrases_4 : decode cX2_phrases 4 = .ok (.getfield 118, 3) := by decide +kernel
theorem dX2_phrases_7 : decode cX2_phrases 7 = .ok (.ireturn, 1) := by decide +kernel
theorem dX2_nextOffset_0 : decode cX2_nextOffset 0 = .ok (.aload_n 0, 1) := by decide +kernel
theorem dX2_nextOffset_1 : decode cX2_nextOffset 1 = .ok (.getfield 10, 3) := by decide +kernel
theorem dX2_nextOffset_4 : decode cX2_nextOffset 4 = .ok (.getfield 121, 3) := by decide +kernel
theorem dX2_nextOffset_7 : decode cX2_nextOffset 7 = .ok (.ireturn, 1) := by decide +kernel
theorem dX2_firstOffset_0 : decode cX2_firstOffset 0 = .ok (.aload_n 0, 1) := by decide +kernel
theorem dX2_firstOffset_1 : decode cX2_firstOffset 1 = .ok (.getfield 10, 3) := by decide +kernel
theorem dX2_firstOffset_4 : decode cX2_firstOffset 4 = .ok (.getfield 118, 3) := by decide +kernel
theorem dX2_firstOffset_7 : decode cX2_firstOffset 7 = .ok (.ifCond .ne 7, 3) := by decide +kernel
theorem dX2_firstOffset_10 : decode cX2_firstOffset 10 = .ok (.iconst (-1), 1) := by decide +kernel
theorem dX2_firstOffset_11 : decode cX2_firstOffset 11 = .ok (.goto 12, 3) := by decide +kernel
theorem dX2_firstOffset_14 : decode cX2_firstOffset 14 = .ok (.aload_n 0, 1) := by decide +kernel
theorem dX2_firstOffset_15 : decode cX2_firstOffset 15 = .ok (.getfield 10, 3) := by decide +kernel
theorem dX2_firstOffset_18 : decode cX2_firstOffset 18 = .ok (.getfield 124, 3) := by decide +kernel
theorem dX2_firstOffset_21 : decode cX2_firstOffset 21 = .ok (.iconst 0, 1) := by decide +kernel
theorem dX2_firstOffset_22 : decode cX2_firstOffset 22 = .ok (.iaload, 1) := by decide +kernel
theorem dX2_firstOffset_23 : decode cX2_firstOffset 23 = .ok (.ireturn, 1) := by decide +kernel
theorem dX2_dropped_0 : decode cX2_dropped 0 = .ok (.aload_n 0, 1) := by decide +kernel
theorem dX2_dropped_1 : decode cX2_dropped 1 = .ok (.getfield 10, 3) := by decide +kernel
theorem dX2_dropped_4 : decode cX2_dropped 4 = .ok (.getfield 127, 3) := by decide +kernel
theorem dX2_dropped_7 : decode cX2_dropped 7 = .ok (.ireturn, 1) := by decide +kernel
set_option maxRecDepth 20000 in
theorem ggX2_isKept_X0_positionOf : GoodIn wsX2_isKept wsX0_positionOf := goodIn_r _ [5, 6, 7, 8, 9, 10, 3, 11, 21, 22, 23, 24, 25, 26, 27, 28] (by decide +kernel) (by decide +kernel)
set_option maxRecDepth 20000 in
theorem gX2_isKept_X0_positionOf_n130 : GoodIn wsX2_isKept (wsX0_positionOf) := ggX2_isKept_X0_positionOf
theorem dX2_isKept_0 : decode cX2_isKept 0 = .ok (.aload_n 0, 1) := by decide +kernel
theorem dX2_isKept_1 : decode cX2_isKept 1 = .ok (.getfield 10, 3) := by decide +kernel
theorem dX2_isKept_4 : decode cX2_isKept 4 = .ok (.iload_n 1, 1) := by decide +kernel
theorem dX2_isKept_5 : decode cX2_isKept 5 = .ok (.invokevirtual 130, 3) := by decide +kernel
theorem dX2_isKept_8 : decode cX2_isKept 8 = .ok (.iconst (-1), 1) := by decide +kernel
theorem dX2_isKept_9 : decode cX2_isKept 9 = .ok (.if_icmp .eq 7, 3) := by decide +kernel
theorem dX2_isKept_12 : decode cX2_isKept 12 = .ok (.iconst 1, 1) := by decide +kernel
theorem dX2_isKept_13 : decode cX2_isKept 13 = .ok (.goto 4, 3) := by decide +kernel
theorem dX2_isKept_16 : decode cX2_isKept 16 = .ok (.iconst 0, 1) := by decide +kernel
theorem dX2_isKept_17 : decode cX2_isKept 17 = .ok (.ireturn, 1) := by decide +kernel
set_option maxRecDepth 20000 in
theorem ggX2_keyAt_X2_keptPosition : GoodIn wsX2_keyAt wsX2_keptPosition := goodIn_ca (goodIn_r _ [6, 7, 8, 1, 9, 10, 11, 12, 13, 14, 15, 16, 17, 18, 19, 20, 21, 22, 23, 24, 25, 26, 27, 28, 29, 30, 31, 32, 33, 34, 35] (by decide +kernel) (by decide +kernel)) (goodIn_sub (fun _ h => List.mem_cons_of_mem _ (List.mem_append_right _ h)) (by decide +kernel))
set_option maxRecDepth 20000 in
theorem gX2_keyAt_X2_keptPosition : GoodIn wsX2_keyAt (wsV RX2 137 RX2 yX2_keptPosition wsX2_keptPosition) := goodIn_app (goodIn_of _ (by decide +kernel)) ggX2_keyAt_X2_keptPosition
theorem dX2_keyAt_0 : decode cX2_keyAt 0 = .ok (.aload_n 0, 1) := by decide +kernel
theorem dX2_keyAt_1 : decode cX2_keyAt 1 = .ok (.getfield 10, 3) := by decide +kernel
theorem dX2_keyAt_4 : decode cX2_keyAt 4 = .ok (.getfield 134, 3) := by decide +kernel
theorem dX2_keyAt_7 : decode cX2_keyAt 7 = .ok (.aload_n 0, 1) := by decide +kernel
theorem dX2_keyAt_8 : decode cX2_keyAt 8 = .ok (.iload_n 1, 1) := by decide +kernel
theorem dX2_keyAt_9 : decode cX2_keyAt 9 = .ok (.invokevirtual 137, 3) := by decide +kernel
theorem dX2_keyAt_12 : decode cX2_keyAt 12 = .ok (.iaload, 1) := by decide +kernel
theorem dX2_keyAt_13 : decode cX2_keyAt 13 = .ok (.ireturn, 1) := by decide +kernel
set_option maxRecDepth 20000 in
theorem ggX2_valueAt_X2_keptPosition : GoodIn wsX2_valueAt wsX2_keptPosition := goodIn_ca (goodIn_r _ [6, 7, 8, 1, 9, 10, 11, 12, 13, 14, 15, 16, 17, 18, 19, 20, 21, 22, 23, 24, 25, 26, 27, 28, 29, 30, 31, 32, 33, 34, 35] (by decide +kernel) (by decide +kernel)) (goodIn_sub (fun _ h => List.mem_cons_of_mem _ (List.mem_append_right _ h)) (by decide +kernel))
set_option maxRecDepth 20000 in
theorem gX2_valueAt_X2_keptPosition : GoodIn wsX2_valueAt (wsV RX2 137 RX2 yX2_keptPosition wsX2_keptPosition) := goodIn_app (goodIn_of _ (by decide +kernel)) ggX2_valueAt_X2_keptPosition
theorem dX2_valueAt_0 : decode cX2_valueAt 0 = .ok (.aload_n 0, 1) := by decide +kernel
theorem dX2_valueAt_1 : decode cX2_valueAt 1 = .ok (.getfield 10, 3) := by decide +kernel
theorem dX2_valueAt_4 : decode cX2_valueAt 4 = .ok (.getfield 140, 3) := by decide +kernel
theorem dX2_valueAt_7 : decode cX2_valueAt 7 = .ok (.aload_n 0, 1) := by decide +kernel
theorem dX2_valueAt_8 : decode cX2_valueAt 8 = .ok (.iload_n 1, 1) := by decide +kernel
theorem dX2_valueAt_9 : decode cX2_valueAt 9 = .ok (.invokevirtual 137, 3) := by decide +kernel
theorem dX2_valueAt_12 : decode cX2_valueAt 12 = .ok (.iaload, 1) := by decide +kernel
theorem dX2_valueAt_13 : decode cX2_valueAt 13 = .ok (.ireturn, 1) := by decide +kernel
set_option maxRecDepth 20000 in
theorem ggX2_stormAt_X2_keptPosition : GoodIn wsX2_stormAt wsX2_keptPosition := goodIn_ca (goodIn_r _ [6, 7, 8, 1, 9, 10, 11, 12, 13, 14, 15, 16, 17, 18, 19, 20, 21, 22, 23, 24, 25, 26, 27, 28, 29, 30, 31, 32, 33, 34, 35] (by decide +kernel) (by decide +kernel)) (goodIn_sub (fun _ h => List.mem_cons_of_mem _ (List.mem_append_right _ h)) (by decide +kernel))
set_option maxRecDepth 20000 in
theorem gX2_stormAt_X2_keptPosition : GoodIn wsX2_stormAt (wsV RX2 137 RX2 yX2_keptPosition wsX2_keptPosition) := goodIn_app (goodIn_of _ (by decide +kernel)) ggX2_stormAt_X2_keptPosition
theorem dX2_stormAt_0 : decode cX2_stormAt 0 = .ok (.aload_n 0, 1) := by decide +kernel
theorem dX2_stormAt_1 : decode cX2_stormAt 1 = .ok (.getfield 10, 3) := by decide +kernel
theorem dX2_stormAt_4 : decode cX2_stormAt 4 = .ok (.getfield 143, 3) := by decide +kernel
theorem dX2_stormAt_7 : decode cX2_stormAt 7 = .ok (.aload_n 0, 1) := by decide +kernel
theorem dX2_stormAt_8 : decode cX2_stormAt 8 = .ok (.iload_n 1, 1) := by decide +kernel
theorem dX2_stormAt_9 : decode cX2_stormAt 9 = .ok (.invokevirtual 137, 3) := by decide +kernel
theorem dX2_stormAt_12 : decode cX2_stormAt 12 = .ok (.iaload, 1) := by decide +kernel
theorem dX2_stormAt_13 : decode cX2_stormAt 13 = .ok (.ireturn, 1) := by decide +kernel
set_option maxRecDepth 20000 in
theorem ggX2_latestOf_X2_checkKey : GoodIn wsX2_latestOf wsX2_checkKey := goodIn_ca (goodIn_r _ [5, 6, 7, 8, 9, 4, 10] (by decide +kernel) (by decide +kernel)) (goodIn_sub (fun _ h => List.mem_cons_of_mem _ (List.mem_append_right _ h)) (by decide +kernel))
set_option maxRecDepth 20000 in
theorem gX2_latestOf_X2_checkKey : GoodIn wsX2_latestOf (va_wsS RX2 146 yX2_checkKey wsX2_checkKey) := goodIn_app (goodIn_of _ (by decide +kernel)) ggX2_latestOf_X2_checkKey
set_option maxRecDepth 20000 in
theorem ggX2_latestOf_X0_latestOffset : GoodIn wsX2_latestOf wsX0_latestOffset := goodIn_r _ [14, 15, 16, 17, 18, 19, 12, 20, 21, 31, 32, 33, 34, 35, 36, 37, 38] (by decide +kernel) (by decide +kernel)
set_option maxRecDepth 20000 in
theorem gX2_latestOf_X0_latestOffset_n149 : GoodIn wsX2_latestOf (wsX0_latestOffset) := ggX2_latestOf_X0_latestOffset
theorem dX2_latestOf_0 : decode cX2_latestOf 0 = .ok (.iload_n 1, 1) := by decide +kernel
theorem dX2_latestOf_1 : decode cX2_latestOf 1 = .ok (.invokestatic 146, 3) := by decide +kernel
theorem dX2_latestOf_4 : decode cX2_latestOf 4 = .ok (.aload_n 0, 1) := by decide +kernel
theorem dX2_latestOf_5 : decode cX2_latestOf 5 = .ok (.getfield 10, 3) := by decide +kernel
theorem dX2_latestOf_8 : decode cX2_latestOf 8 = .ok (.iload_n 1, 1) := by decide +kernel
theorem dX2_latestOf_9 : decode cX2_latestOf 9 = .ok (.invokevirtual 149, 3) := by decide +kernel
theorem dX2_latestOf_12 : decode cX2_latestOf 12 = .ok (.ireturn, 1) := by decide +kernel
set_option maxRecDepth 20000 in
theorem ggX2_valueOf_X2_checkKey : GoodIn wsX2_valueOf wsX2_checkKey := goodIn_ca (goodIn_r _ [5, 6, 7, 8, 9, 4, 10] (by decide +kernel) (by decide +kernel)) (goodIn_sub (fun _ h => List.mem_cons_of_mem _ (List.mem_append_right _ h)) (by decide +kernel))
set_option maxRecDepth 20000 in
theorem gX2_valueOf_X2_checkKey : GoodIn wsX2_valueOf (va_wsS RX2 146 yX2_checkKey wsX2_checkKey) := goodIn_app (goodIn_of _ (by decide +kernel)) ggX2_valueOf_X2_checkKey
set_option maxRecDepth 20000 in
theorem ggX2_valueOf_X0_latestValue : GoodIn wsX2_valueOf wsX0_latestValue := goodIn_r _ [14, 15, 16, 17, 18, 19, 12, 20, 21, 31, 32, 33, 34, 35, 36, 37, 38] (by decide +kernel) (by decide +kernel)
set_option maxRecDepth 20000 in
theorem gX2_valueOf_X0_latestValue_n152 : GoodIn wsX2_valueOf (wsX0_latestValue) := ggX2_valueOf_X0_latestValue
theorem dX2_valueOf_0 : decode cX2_valueOf 0 = .ok (.iload_n 1, 1) := by decide +kernel
theorem dX2_valueOf_1 : decode cX2_valueOf 1 = .ok (.invokestatic 146, 3) := by decide +kernel
theorem dX2_valueOf_4 : decode cX2_valueOf 4 = .ok (.aload_n 0, 1) := by decide +kernel
theorem dX2_valueOf_5 : decode cX2_valueOf 5 = .ok (.getfield 10, 3) := by decide +kernel
theorem dX2_valueOf_8 : decode cX2_valueOf 8 = .ok (.iload_n 1, 1) := by decide +kernel
theorem dX2_valueOf_9 : decode cX2_valueOf 9 = .ok (.invokevirtual 152, 3) := by decide +kernel
theorem dX2_valueOf_12 : decode cX2_valueOf 12 = .ok (.ireturn, 1) := by decide +kernel
set_option maxRecDepth 20000 in
theorem ggX2_countOf_X2_checkKey : GoodIn wsX2_countOf wsX2_checkKey := goodIn_ca (goodIn_r _ [5, 6, 7, 8, 9, 4, 10] (by decide +kernel) (by decide +kernel)) (goodIn_sub (fun _ h => List.mem_cons_of_mem _ (List.mem_append_right _ h)) (by decide +kernel))
set_option maxRecDepth 20000 in
theorem gX2_countOf_X2_checkKey : GoodIn wsX2_countOf (va_wsS RX2 146 yX2_checkKey wsX2_checkKey) := goodIn_app (goodIn_of _ (by decide +kernel)) ggX2_countOf_X2_checkKey
set_option maxRecDepth 20000 in
theorem ggX2_countOf_X0_countKey : GoodIn wsX2_countOf wsX0_countKey := goodIn_r _ [14, 15, 16, 17, 18, 12, 19, 20, 30, 31, 32, 33, 34, 35, 36, 37] (by decide +kernel) (by decide +kernel)
set_option maxRecDepth 20000 in
theorem gX2_countOf_X0_countKey_n155 : GoodIn wsX2_countOf (wsX0_countKey) := ggX2_countOf_X0_countKey
theorem dX2_countOf_0 : decode cX2_countOf 0 = .ok (.iload_n 1, 1) := by decide +kernel
theorem dX2_countOf_1 : decode cX2_countOf 1 = .ok (.invokestatic 146, 3) := by decide +kernel
theorem dX2_countOf_4 : decode cX2_countOf 4 = .ok (.aload_n 0, 1) := by decide +kernel
theorem dX2_countOf_5 : decode cX2_countOf 5 = .ok (.getfield 10, 3) := by decide +kernel
theorem dX2_countOf_8 : decode cX2_countOf 8 = .ok (.iload_n 1, 1) := by decide +kernel
theorem dX2_countOf_9 : decode cX2_countOf 9 = .ok (.invokevirtual 155, 3) := by decide +kernel
theorem dX2_countOf_12 : decode cX2_countOf 12 = .ok (.ireturn, 1) := by decide +kernel
theorem dX2_storms_0 : decode cX2_storms 0 = .ok (.aload_n 0, 1) := by decide +kernel
theorem dX2_storms_1 : decode cX2_storms 1 = .ok (.getfield 59, 3) := by decide +kernel
theorem dX2_storms_4 : decode cX2_storms 4 = .ok (.ireturn, 1) := by decide +kernel
theorem dX2_isStormy_0 : decode cX2_isStormy 0 = .ok (.aload_n 0, 1) := by decide +kernel
theorem dX2_isStormy_1 : decode cX2_isStormy 1 = .ok (.getfield 50, 3) := by decide +kernel
theorem dX2_isStormy_4 : decode cX2_isStormy 4 = .ok (.ireturn, 1) := by decide +kernel
set_option maxRecDepth 20000 in
theorem ggX2_saidIn_X2_checkStorm : GoodIn wsX2_saidIn wsX2_checkStorm := goodIn_ca (goodIn_r _ [6, 7, 8, 9, 10, 11, 12, 13, 14, 15, 16, 17, 18] (by decide +kernel) (by decide +kernel)) (goodIn_sub (fun _ h => List.mem_cons_of_mem _ (List.mem_append_right _ h)) (by decide +kernel))
set_option maxRecDepth 20000 in
theorem gX2_saidIn_X2_checkStorm : GoodIn wsX2_saidIn (wsV RX2 67 RX2 yX2_checkStorm wsX2_checkStorm) := goodIn_app (goodIn_of _ (by decide +kernel)) ggX2_saidIn_X2_checkStorm
theorem dX2_saidIn_0 : decode cX2_saidIn 0 = .ok (.aload_n 0, 1) := by decide +kernel
theorem dX2_saidIn_1 : decode cX2_saidIn 1 = .ok (.iload_n 1, 1) := by decide +kernel
theorem dX2_saidIn_2 : decode cX2_saidIn 2 = .ok (.invokevirtual 67, 3) := by decide +kernel
theorem dX2_saidIn_5 : decode cX2_saidIn 5 = .ok (.aload_n 0, 1) := by decide +kernel
theorem dX2_saidIn_6 : decode cX2_saidIn 6 = .ok (.getfield 16, 3) := by decide +kernel
theorem dX2_saidIn_9 : decode cX2_saidIn 9 = .ok (.iload_n 1, 1) := by decide +kernel
theorem dX2_saidIn_10 : decode cX2_saidIn 10 = .ok (.iaload, 1) := by decide +kernel
theorem dX2_saidIn_11 : decode cX2_saidIn 11 = .ok (.ireturn, 1) := by decide +kernel
set_option maxRecDepth 20000 in
theorem ggX2_keptOf_X2_checkStorm : GoodIn wsX2_keptOf wsX2_checkStorm := goodIn_ca (goodIn_r _ [6, 7, 8, 9, 20, 21, 22, 23, 24, 25, 26, 27, 28] (by decide +kernel) (by decide +kernel)) (goodIn_sub (fun _ h => List.mem_cons_of_mem _ (List.mem_append_right _ h)) (by decide +kernel))
set_option maxRecDepth 20000 in
theorem gX2_keptOf_X2_checkStorm : GoodIn wsX2_keptOf (wsV RX2 67 RX2 yX2_checkStorm wsX2_checkStorm) := goodIn_app (goodIn_of _ (by decide +kernel)) ggX2_keptOf_X2_checkStorm
set_option maxRecDepth 20000 in
theorem ggX2_keptOf_X0_countStorm : GoodIn wsX2_keptOf wsX0_countStorm := goodIn_r _ [13, 14, 15, 16, 17, 11, 18, 19, 29, 30, 31, 32, 33, 34, 35, 36] (by decide +kernel) (by decide +kernel)
set_option maxRecDepth 20000 in
theorem gX2_keptOf_X0_countStorm_n158 : GoodIn wsX2_keptOf (wsX0_countStorm) := ggX2_keptOf_X0_countStorm
theorem dX2_keptOf_0 : decode cX2_keptOf 0 = .ok (.aload_n 0, 1) := by decide +kernel
theorem dX2_keptOf_1 : decode cX2_keptOf 1 = .ok (.iload_n 1, 1) := by decide +kernel
theorem dX2_keptOf_2 : decode cX2_keptOf 2 = .ok (.invokevirtual 67, 3) := by decide +kernel
theorem dX2_keptOf_5 : decode cX2_keptOf 5 = .ok (.aload_n 0, 1) := by decide +kernel
theorem dX2_keptOf_6 : decode cX2_keptOf 6 = .ok (.getfield 10, 3) := by decide +kernel
theorem dX2_keptOf_9 : decode cX2_keptOf 9 = .ok (.iload_n 1, 1) := by decide +kernel
theorem dX2_keptOf_10 : decode cX2_keptOf 10 = .ok (.invokevirtual 158, 3) := by decide +kernel
theorem dX2_keptOf_13 : decode cX2_keptOf 13 = .ok (.ireturn, 1) := by decide +kernel
theorem dX2_ships_0 : decode cX2_ships 0 = .ok (.aload_n 0, 1) := by decide +kernel
theorem dX2_ships_1 : decode cX2_ships 1 = .ok (.getfield 90, 3) := by decide +kernel
theorem dX2_ships_4 : decode cX2_ships 4 = .ok (.ireturn, 1) := by decide +kernel
set_option maxRecDepth 20000 in
theorem ggX2_offsetOf_X2_shipNumbered : GoodIn wsX2_offsetOf wsX2_shipNumbered := goodIn_ca (goodIn_r _ [5, 6, 7, 8, 9, 15, 16, 17, 18, 19, 20, 21, 22, 23] (by decide +kernel) (by decide +kernel)) (goodIn_sub (fun _ h => List.mem_cons_of_mem _ (List.mem_append_right _ h)) (by decide +kernel))
set_option maxRecDepth 20000 in
theorem gX2_offsetOf_X2_shipNumbered : GoodIn wsX2_offsetOf (wsV RX2 101 RX2 yX2_shipNumbered wsX2_shipNumbered) := goodIn_app (goodIn_of _ (by decide +kernel)) ggX2_offsetOf_X2_shipNumbered
theorem dX2_offsetOf_0 : decode cX2_offsetOf 0 = .ok (.aload_n 0, 1) := by decide +kernel
theorem dX2_offsetOf_1 : decode cX2_offsetOf 1 = .ok (.iload_n 1, 1) := by decide +kernel
theorem dX2_offsetOf_2 : decode cX2_offsetOf 2 = .ok (.invokevirtual 101, 3) := by decide +kernel
theorem dX2_offsetOf_5 : decode cX2_offsetOf 5 = .ok (.getfield 98, 3) := by decide +kernel
theorem dX2_offsetOf_8 : decode cX2_offsetOf 8 = .ok (.ireturn, 1) := by decide +kernel
set_option maxRecDepth 20000 in
theorem ggX2_lagOf_X2_shipNumbered : GoodIn wsX2_lagOf wsX2_shipNumbered := goodIn_ca (goodIn_r _ [5, 6, 7, 8, 9, 21, 22, 23, 24, 25, 26, 27, 28, 29] (by decide +kernel) (by decide +kernel)) (goodIn_sub (fun _ h => List.mem_cons_of_mem _ (List.mem_append_right _ h)) (by decide +kernel))
set_option maxRecDepth 20000 in
theorem gX2_lagOf_X2_shipNumbered : GoodIn wsX2_lagOf (wsV RX2 101 RX2 yX2_shipNumbered wsX2_shipNumbered) := goodIn_app (goodIn_of _ (by decide +kernel)) ggX2_lagOf_X2_shipNumbered
set_option maxRecDepth 20000 in
theorem ggX2_lagOf_X2_lag : GoodIn wsX2_lagOf wsX2_lag := goodIn_r _ [13, 14, 15, 16, 17, 18, 19, 20, 21, 22, 23, 24, 25, 26, 27, 28, 29, 30, 31, 32, 33, 34, 35, 36, 37, 38, 39, 40, 41, 42] (by decide +kernel) (by decide +kernel)
set_option maxRecDepth 20000 in
theorem gX2_lagOf_X2_lag : GoodIn wsX2_lagOf (wsV RX2 161 RX2 yX2_lag wsX2_lag) := goodIn_app (goodIn_of _ (by decide +kernel)) ggX2_lagOf_X2_lag
theorem dX2_lagOf_0 : decode cX2_lagOf 0 = .ok (.aload_n 0, 1) := by decide +kernel
theorem dX2_lagOf_1 : decode cX2_lagOf 1 = .ok (.aload_n 0, 1) := by decide +kernel
theorem dX2_lagOf_2 : decode cX2_lagOf 2 = .ok (.iload_n 1, 1) := by decide +kernel
theorem dX2_lagOf_3 : decode cX2_lagOf 3 = .ok (.invokevirtual 101, 3) := by decide +kernel
theorem dX2_lagOf_6 : decode cX2_lagOf 6 = .ok (.invokevirtual 161, 3) := by decide +kernel
theorem dX2_lagOf_9 : decode cX2_lagOf 9 = .ok (.ireturn, 1) := by decide +kernel
set_option maxRecDepth 20000 in
theorem ggX2_heardBy_X2_shipNumbered : GoodIn wsX2_heardBy wsX2_shipNumbered := goodIn_ca (goodIn_r _ [5, 6, 7, 8, 9, 15, 16, 17, 18, 19, 20, 21, 22, 23] (by decide +kernel) (by decide +kernel)) (goodIn_sub (fun _ h => List.mem_cons_of_mem _ (List.mem_append_right _ h)) (by decide +kernel))
set_option maxRecDepth 20000 in
theorem gX2_heardBy_X2_shipNumbered : GoodIn wsX2_heardBy (wsV RX2 101 RX2 yX2_shipNumbered wsX2_shipNumbered) := goodIn_app (goodIn_of _ (by decide +kernel)) ggX2_heardBy_X2_shipNumbered
theorem dX2_heardBy_0 : decode cX2_heardBy 0 = .ok (.aload_n 0, 1) := by decide +kernel
theorem dX2_heardBy_1 : decode cX2_heardBy 1 = .ok (.iload_n 1, 1) := by decide +kernel
theorem dX2_heardBy_2 : decode cX2_heardBy 2 = .ok (.invokevirtual 101, 3) := by decide +kernel
theorem dX2_heardBy_5 : decode cX2_heardBy 5 = .ok (.getfield 165, 3) := by decide +kernel
theorem dX2_heardBy_8 : decode cX2_heardBy 8 = .ok (.ireturn, 1) := by decide +kernel
set_option maxRecDepth 20000 in
theorem ggX2_missedBy_X2_shipNumbered : GoodIn wsX2_missedBy wsX2_shipNumbered := goodIn_ca (goodIn_r _ [5, 6, 7, 8, 9, 15, 16, 17, 18, 19, 20, 21, 22, 23] (by decide +kernel) (by decide +kernel)) (goodIn_sub (fun _ h => List.mem_cons_of_mem _ (List.mem_append_right _ h)) (by decide +kernel))
set_option maxRecDepth 20000 in
theorem gX2_missedBy_X2_shipNumbered : GoodIn wsX2_missedBy (wsV RX2 101 RX2 yX2_shipNumbered wsX2_shipNumbered) := goodIn_app (goodIn_of _ (by decide +kernel)) ggX2_missedBy_X2_shipNumbered
theorem dX2_missedBy_0 : decode cX2_missedBy 0 = .ok (.aload_n 0, 1) := by decide +kernel
theorem dX2_missedBy_1 : decode cX2_missedBy 1 = .ok (.iload_n 1, 1) := by decide +kernel
theorem dX2_missedBy_2 : decode cX2_missedBy 2 = .ok (.invokevirtual 101, 3) := by decide +kernel
theorem dX2_missedBy_5 : decode cX2_missedBy 5 = .ok (.getfield 168, 3) := by decide +kernel
theorem dX2_missedBy_8 : decode cX2_missedBy 8 = .ok (.ireturn, 1) := by decide +kernel
set_option maxRecDepth 20000 in
theorem ggX2_knownBy_X2_shipNumbered : GoodIn wsX2_knownBy wsX2_shipNumbered := goodIn_ca (goodIn_r _ [5, 6, 7, 8, 9, 21, 22, 23, 24, 25, 26, 27, 28, 29] (by decide +kernel) (by decide +kernel)) (goodIn_sub (fun _ h => List.mem_cons_of_mem _ (List.mem_append_right _ h)) (by decide +kernel))
set_option maxRecDepth 20000 in
theorem gX2_knownBy_X2_shipNumbered : GoodIn wsX2_knownBy (wsV RX2 101 RX2 yX2_shipNumbered wsX2_shipNumbered) := goodIn_app (goodIn_of _ (by decide +kernel)) ggX2_knownBy_X2_shipNumbered
set_option maxRecDepth 20000 in
theorem ggX2_knownBy_X2_checkKey : GoodIn wsX2_knownBy wsX2_checkKey := goodIn_ca (goodIn_r _ [12, 6, 7, 13, 14, 4, 15] (by decide +kernel) (by decide +kernel)) (goodIn_sub (fun _ h => List.mem_cons_of_mem _ (List.mem_append_right _ h)) (by decide +kernel))
set_option maxRecDepth 20000 in
theorem gX2_knownBy_X2_checkKey : GoodIn wsX2_knownBy (va_wsS RX2 146 yX2_checkKey wsX2_checkKey) := goodIn_app (goodIn_of _ (by decide +kernel)) ggX2_knownBy_X2_checkKey
theorem dX2_knownBy_0 : decode cX2_knownBy 0 = .ok (.aload_n 0, 1) := by decide +kernel
theorem dX2_knownBy_1 : decode cX2_knownBy 1 = .ok (.iload_n 1, 1) := by decide +kernel
theorem dX2_knownBy_2 : decode cX2_knownBy 2 = .ok (.invokevirtual 101, 3) := by decide +kernel
theorem dX2_knownBy_5 : decode cX2_knownBy 5 = .ok (.astore_n 3, 1) := by decide +kernel
theorem dX2_knownBy_6 : decode cX2_knownBy 6 = .ok (.iload_n 2, 1) := by decide +kernel
theorem dX2_knownBy_7 : decode cX2_knownBy 7 = .ok (.invokestatic 146, 3) := by decide +kernel
theorem dX2_knownBy_10 : decode cX2_knownBy 10 = .ok (.aload_n 3, 1) := by decide +kernel
theorem dX2_knownBy_11 : decode cX2_knownBy 11 = .ok (.getfield 171, 3) := by decide +kernel
theorem dX2_knownBy_14 : decode cX2_knownBy 14 = .ok (.iload_n 2, 1) := by decide +kernel
theorem dX2_knownBy_15 : decode cX2_knownBy 15 = .ok (.iaload, 1) := by decide +kernel
theorem dX2_knownBy_16 : decode cX2_knownBy 16 = .ok (.ireturn, 1) := by decide +kernel
set_option maxRecDepth 20000 in
theorem ggX2_errorsOf_X2_shipNumbered : GoodIn wsX2_errorsOf wsX2_shipNumbered := goodIn_ca (goodIn_r _ [5, 6, 7, 8, 9, 34, 35, 36, 37, 38, 39, 40, 41, 42] (by decide +kernel) (by decide +kernel)) (goodIn_sub (fun _ h => List.mem_cons_of_mem _ (List.mem_append_right _ h)) (by decide +kernel))
set_option maxRecDepth 20000 in
theorem gX2_errorsOf_X2_shipNumbered : GoodIn wsX2_errorsOf (wsV RX2 101 RX2 yX2_shipNumbered wsX2_shipNumbered) := goodIn_app (goodIn_of _ (by decide +kernel)) ggX2_errorsOf_X2_shipNumbered
set_option maxRecDepth 20000 in
theorem ggX2_errorsOf_X2_errorsAfter : GoodIn wsX2_errorsOf wsX2_errorsAfter := goodIn_r _ [13, 14, 15, 16, 17, 18, 19, 20, 21, 22, 23, 24, 25, 26, 27, 28, 29, 30, 31, 32, 33, 34, 35, 36, 37, 38, 39, 40, 41, 42, 43, 44, 45, 46, 47, 48, 49, 50, 51, 52, 53, 54, 55] (by decide +kernel) (by decide +kernel)
set_option maxRecDepth 20000 in
theorem gX2_errorsOf_X2_errorsAfter : GoodIn wsX2_errorsOf (wsV RX2 174 RX2 yX2_errorsAfter wsX2_errorsAfter) := goodIn_app (goodIn_of _ (by decide +kernel)) ggX2_errorsOf_X2_errorsAfter
theorem dX2_errorsOf_0 : decode cX2_errorsOf 0 = .ok (.aload_n 0, 1) := by decide +kernel
theorem dX2_errorsOf_1 : decode cX2_errorsOf 1 = .ok (.aload_n 0, 1) := by decide +kernel
theorem dX2_errorsOf_2 : decode cX2_errorsOf 2 = .ok (.iload_n 1, 1) := by decide +kernel
theorem dX2_errorsOf_3 : decode cX2_errorsOf 3 = .ok (.invokevirtual 101, 3) := by decide +kernel
theorem dX2_errorsOf_6 : decode cX2_errorsOf 6 = .ok (.iconst 0, 1) := by decide +kernel
theorem dX2_errorsOf_7 : decode cX2_errorsOf 7 = .ok (.invokevirtual 174, 3) := by decide +kernel
theorem dX2_errorsOf_10 : decode cX2_errorsOf 10 = .ok (.ireturn, 1) := by decide +kernel
set_option maxRecDepth 20000 in
theorem ggX2_farthestBehind_X2_lag : GoodIn wsX2_farthestBehind wsX2_lag := goodIn_r _ [7, 8, 9, 10, 11, 12, 13, 14, 15, 16, 17, 18, 19, 20, 21, 22, 23, 24, 25, 26, 27, 28, 29, 30, 31, 32, 33, 34, 35, 36] (by decide +kernel) (by decide +kernel)
set_option maxRecDepth 20000 in
theorem gX2_farthestBehind_X2_lag : GoodIn wsX2_farthestBehind (wsV RX2 161 RX2 yX2_lag wsX2_lag) := goodIn_app (goodIn_of _ (by decide +kernel)) ggX2_farthestBehind_X2_lag
theorem dX2_farthestBehind_0 : decode cX2_farthestBehind 0 = .ok (.iconst (-1), 1) := by decide +kernel
theorem dX2_farthestBehind_1 : decode cX2_farthestBehind 1 = .ok (.istore_n 1, 1) := by decide +kernel
theorem dX2_farthestBehind_2 : decode cX2_farthestBehind 2 = .ok (.iconst (-1), 1) := by decide +kernel
theorem dX2_farthestBehind_3 : decode cX2_farthestBehind 3 = .ok (.istore_n 2, 1) := by decide +kernel
theorem dX2_farthestBehind_4 : decode cX2_farthestBehind 4 = .ok (.iconst 0, 1) := by decide +kernel
theorem dX2_farthestBehind_5 : decode cX2_farthestBehind 5 = .ok (.istore_n 3, 1) := by decide +kernel
theorem dX2_farthestBehind_6 : decode cX2_farthestBehind 6 = .ok (.iload_n 3, 1) := by decide +kernel
theorem dX2_farthestBehind_7 : decode cX2_farthestBehind 7 = .ok (.aload_n 0, 1) := by decide +kernel
theorem dX2_farthestBehind_8 : decode cX2_farthestBehind 8 = .ok (.getfield 90, 3) := by decide +kernel
theorem dX2_farthestBehind_11 : decode cX2_farthestBehind 11 = .ok (.if_icmp .ge 32, 3) := by decide +kernel
theorem dX2_farthestBehind_14 : decode cX2_farthestBehind 14 = .ok (.aload_n 0, 1) := by decide +kernel
theorem dX2_farthestBehind_15 : decode cX2_farthestBehind 15 = .ok (.aload_n 0, 1) := by decide +kernel
theorem dX2_farthestBehind_16 : decode cX2_farthestBehind 16 = .ok (.getfield 22, 3) := by decide +kernel
theorem dX2_farthestBehind_19 : decode cX2_farthestBehind 19 = .ok (.iload_n 3, 1) := by decide +kernel
theorem dX2_farthestBehind_20 : decode cX2_farthestBehind 20 = .ok (.aaload, 1) := by decide +kernel
theorem dX2_farthestBehind_21 : decode cX2_farthestBehind 21 = .ok (.invokevirtual 161, 3) := by decide +kernel
theorem dX2_farthestBehind_24 : decode cX2_farthestBehind 24 = .ok (.istore 4, 2) := by decide +kernel
theorem dX2_farthestBehind_26 : decode cX2_farthestBehind 26 = .ok (.iload 4, 2) := by decide +kernel
theorem dX2_farthestBehind_28 : decode cX2_farthestBehind 28 = .ok (.iload_n 2, 1) := by decide +kernel
theorem dX2_farthestBehind_29 : decode cX2_farthestBehind 29 = .ok (.if_icmp .le 8, 3) := by decide +kernel
theorem dX2_farthestBehind_32 : decode cX2_farthestBehind 32 = .ok (.iload_n 3, 1) := by decide +kernel
theorem dX2_farthestBehind_33 : decode cX2_farthestBehind 33 = .ok (.istore_n 1, 1) := by decide +kernel
theorem dX2_farthestBehind_34 : decode cX2_farthestBehind 34 = .ok (.iload 4, 2) := by decide +kernel
theorem dX2_farthestBehind_36 : decode cX2_farthestBehind 36 = .ok (.istore_n 2, 1) := by decide +kernel
theorem dX2_farthestBehind_37 : decode cX2_farthestBehind 37 = .ok (.iinc 3 1, 3) := by decide +kernel
theorem dX2_farthestBehind_40 : decode cX2_farthestBehind 40 = .ok (.goto (-34), 3) := by decide +kernel
theorem dX2_farthestBehind_43 : decode cX2_farthestBehind 43 = .ok (.iload_n 1, 1) := by decide +kernel
theorem dX2_farthestBehind_44 : decode cX2_farthestBehind 44 = .ok (.ireturn, 1) := by decide +kernel
set_option maxRecDepth 20000 in
theorem ggX2_wouldCompact_X2_markCompacted : GoodIn wsX2_wouldCompact wsX2_markCompacted := goodIn_r _ [6, 1, 7, 8, 9, 5, 10, 11, 12, 13, 14, 15, 16, 17, 18, 19, 20, 21, 22, 23, 24, 25, 26, 27, 28, 29, 41, 42, 43, 44, 45, 46, 47, 48, 49, 50, 51, 52, 53, 54, 55, 56, 57, 58, 59, 60, 61, 62] (by decide +kernel) (by decide +kernel)
set_option maxRecDepth 20000 in
theorem gX2_wouldCompact_X2_markCompacted : GoodIn wsX2_wouldCompact (wsV RX2 75 RX2 yX2_markCompacted wsX2_markCompacted) := goodIn_app (goodIn_of _ (by decide +kernel)) ggX2_wouldCompact_X2_markCompacted
set_option maxRecDepth 20000 in
theorem ggX2_wouldCompact_X0_countMarked : GoodIn wsX2_wouldCompact wsX0_countMarked := goodIn_r _ [32, 33, 34, 35, 18, 36, 21, 25, 37, 38, 39, 40, 24, 50, 51, 52, 53, 54, 55, 56, 57] (by decide +kernel) (by decide +kernel)
set_option maxRecDepth 20000 in
theorem gX2_wouldCompact_X0_countMarked_n180 : GoodIn wsX2_wouldCompact (wsX0_countMarked) := ggX2_wouldCompact_X0_countMarked
theorem dX2_wouldCompact_0 : decode cX2_wouldCompact 0 = .ok (.aload_n 0, 1) := by decide +kernel
theorem dX2_wouldCompact_1 : decode cX2_wouldCompact 1 = .ok (.invokevirtual 75, 3) := by decide +kernel
theorem dX2_wouldCompact_4 : decode cX2_wouldCompact 4 = .ok (.aload_n 0, 1) := by decide +kernel
theorem dX2_wouldCompact_5 : decode cX2_wouldCompact 5 = .ok (.getfield 10, 3) := by decide +kernel
theorem dX2_wouldCompact_8 : decode cX2_wouldCompact 8 = .ok (.invokevirtual 180, 3) := by decide +kernel
theorem dX2_wouldCompact_11 : decode cX2_wouldCompact 11 = .ok (.ireturn, 1) := by decide +kernel
set_option maxRecDepth 20000 in
theorem ggX2_wouldMiss_X2_shipNumbered : GoodIn wsX2_wouldMiss wsX2_shipNumbered := goodIn_ca (goodIn_r _ [6, 7, 8, 9, 10, 43, 44, 45, 46, 47, 48, 49, 50, 51] (by decide +kernel) (by decide +kernel)) (goodIn_sub (fun _ h => List.mem_cons_of_mem _ (List.mem_append_right _ h)) (by decide +kernel))
set_option maxRecDepth 20000 in
theorem gX2_wouldMiss_X2_shipNumbered : GoodIn wsX2_wouldMiss (wsV RX2 101 RX2 yX2_shipNumbered wsX2_shipNumbered) := goodIn_app (goodIn_of _ (by decide +kernel)) ggX2_wouldMiss_X2_shipNumbered
set_option maxRecDepth 20000 in
theorem ggX2_wouldMiss_X2_markCompacted : GoodIn wsX2_wouldMiss wsX2_markCompacted := goodIn_r _ [14, 1, 15, 16, 17, 5, 18, 9, 10, 19, 20, 21, 22, 23, 24, 25, 26, 27, 28, 29, 30, 31, 32, 33, 34, 35, 43, 44, 45, 46, 47, 48, 49, 50, 51, 57, 58, 59, 60, 61, 62, 63, 64, 52, 53, 54, 55, 56] (by decide +kernel) (by decide +kernel)
set_option maxRecDepth 20000 in
theorem gX2_wouldMiss_X2_markCompacted : GoodIn wsX2_wouldMiss (wsV RX2 75 RX2 yX2_markCompacted wsX2_markCompacted) := goodIn_app (goodIn_of _ (by decide +kernel)) ggX2_wouldMiss_X2_markCompacted
set_option maxRecDepth 20000 in
theorem ggX2_wouldMiss_X0_countMarkedFrom : GoodIn wsX2_wouldMiss wsX0_countMarkedFrom := goodIn_r _ [38, 27, 31, 39, 40, 41, 24, 42, 30, 57, 58, 59, 60, 61, 62, 63, 64] (by decide +kernel) (by decide +kernel)
set_option maxRecDepth 20000 in
theorem gX2_wouldMiss_X0_countMarkedFrom_n183 : GoodIn wsX2_wouldMiss (wsX0_countMarkedFrom) := ggX2_wouldMiss_X0_countMarkedFrom
theorem dX2_wouldMiss_0 : decode cX2_wouldMiss 0 = .ok (.aload_n 0, 1) := by decide +kernel
theorem dX2_wouldMiss_1 : decode cX2_wouldMiss 1 = .ok (.iload_n 1, 1) := by decide +kernel
theorem dX2_wouldMiss_2 : decode cX2_wouldMiss 2 = .ok (.invokevirtual 101, 3) := by decide +kernel
theorem dX2_wouldMiss_5 : decode cX2_wouldMiss 5 = .ok (.astore_n 2, 1) := by decide +kernel
theorem dX2_wouldMiss_6 : decode cX2_wouldMiss 6 = .ok (.aload_n 0, 1) := by decide +kernel
theorem dX2_wouldMiss_7 : decode cX2_wouldMiss 7 = .ok (.invokevirtual 75, 3) := by decide +kernel
theorem dX2_wouldMiss_10 : decode cX2_wouldMiss 10 = .ok (.aload_n 0, 1) := by decide +kernel
theorem dX2_wouldMiss_11 : decode cX2_wouldMiss 11 = .ok (.getfield 10, 3) := by decide +kernel
theorem dX2_wouldMiss_14 : decode cX2_wouldMiss 14 = .ok (.aload_n 2, 1) := by decide +kernel
theorem dX2_wouldMiss_15 : decode cX2_wouldMiss 15 = .ok (.getfield 98, 3) := by decide +kernel
theorem dX2_wouldMiss_18 : decode cX2_wouldMiss 18 = .ok (.invokevirtual 183, 3) := by decide +kernel
theorem dX2_wouldMiss_21 : decode cX2_wouldMiss 21 = .ok (.ireturn, 1) := by decide +kernel
set_option maxRecDepth 20000 in
theorem ggX2_meanLag_X2_lag : GoodIn wsX2_meanLag wsX2_lag := goodIn_r _ [7, 8, 9, 10, 11, 12, 13, 14, 15, 16, 17, 18, 19, 20, 21, 22, 23, 24, 25, 26, 27, 28, 29, 30, 31, 32, 33, 34, 35, 36] (by decide +kernel) (by decide +kernel)
set_option maxRecDepth 20000 in
theorem gX2_meanLag_X2_lag : GoodIn wsX2_meanLag (wsV RX2 161 RX2 yX2_lag wsX2_lag) := goodIn_app (goodIn_of _ (by decide +kernel)) ggX2_meanLag_X2_lag
theorem dX2_meanLag_0 : decode cX2_meanLag 0 = .ok (.aload_n 0, 1) := by decide +kernel
theorem dX2_meanLag_1 : decode cX2_meanLag 1 = .ok (.getfield 90, 3) := by decide +kernel
theorem dX2_meanLag_4 : decode cX2_meanLag 4 = .ok (.ifCond .ne 5, 3) := by decide +kernel
theorem dX2_meanLag_7 : decode cX2_meanLag 7 = .ok (.dconst 0, 1) := by decide +kernel
theorem dX2_meanLag_8 : decode cX2_meanLag 8 = .ok (.dreturn, 1) := by decide +kernel
theorem dX2_meanLag_9 : decode cX2_meanLag 9 = .ok (.iconst 0, 1) := by decide +kernel
theorem dX2_meanLag_10 : decode cX2_meanLag 10 = .ok (.istore_n 1, 1) := by decide +kernel
theorem dX2_meanLag_11 : decode cX2_meanLag 11 = .ok (.iconst 0, 1) := by decide +kernel
theorem dX2_meanLag_12 : decode cX2_meanLag 12 = .ok (.istore_n 2, 1) := by decide +kernel
theorem dX2_meanLag_13 : decode cX2_meanLag 13 = .ok (.iload_n 2, 1) := by decide +kernel
theorem dX2_meanLag_14 : decode cX2_meanLag 14 = .ok (.aload_n 0, 1) := by decide +kernel
theorem dX2_meanLag_15 : decode cX2_meanLag 15 = .ok (.getfield 90, 3) := by decide +kernel
theorem dX2_meanLag_18 : decode cX2_meanLag 18 = .ok (.if_icmp .ge 22, 3) := by decide +kernel
theorem dX2_meanLag_21 : decode cX2_meanLag 21 = .ok (.iload_n 1, 1) := by decide +kernel
theorem dX2_meanLag_22 : decode cX2_meanLag 22 = .ok (.aload_n 0, 1) := by decide +kernel
theorem dX2_meanLag_23 : decode cX2_meanLag 23 = .ok (.aload_n 0, 1) := by decide +kernel
theorem dX2_meanLag_24 : decode cX2_meanLag 24 = .ok (.getfield 22, 3) := by decide +kernel
theorem dX2_meanLag_27 : decode cX2_meanLag 27 = .ok (.iload_n 2, 1) := by decide +kernel
theorem dX2_meanLag_28 : decode cX2_meanLag 28 = .ok (.aaload, 1) := by decide +kernel
theorem dX2_meanLag_29 : decode cX2_meanLag 29 = .ok (.invokevirtual 161, 3) := by decide +kernel
theorem dX2_meanLag_32 : decode cX2_meanLag 32 = .ok (.iadd, 1) := by decide +kernel
theorem dX2_meanLag_33 : decode cX2_meanLag 33 = .ok (.istore_n 1, 1) := by decide +kernel
theorem dX2_meanLag_34 : decode cX2_meanLag 34 = .ok (.iinc 2 1, 3) := by decide +kernel
theorem dX2_meanLag_37 : decode cX2_meanLag 37 = .ok (.goto (-24), 3) := by decide +kernel
theorem dX2_meanLag_40 : decode cX2_meanLag 40 = .ok (.iload_n 1, 1) := by decide +kernel
theorem dX2_meanLag_41 : decode cX2_meanLag 41 = .ok (.i2d, 1) := by decide +kernel
theorem dX2_meanLag_42 : decode cX2_meanLag 42 = .ok (.aload_n 0, 1) := by decide +kernel
theorem dX2_meanLag_43 : decode cX2_meanLag 43 = .ok (.getfield 90, 3) := by decide +kernel
theorem dX2_meanLag_46 : decode cX2_meanLag 46 = .ok (.i2d, 1) := by decide +kernel
theorem dX2_meanLag_47 : decode cX2_meanLag 47 = .ok (.ddiv, 1) := by decide +kernel
theorem dX2_meanLag_48 : decode cX2_meanLag 48 = .ok (.dreturn, 1) := by decide +kernel
set_option maxRecDepth 20000 in
theorem ggX2_speak_X0_markFirst : GoodIn wsX2_speak wsX0_markFirst := goodIn_r _ [8, 9, 10, 46, 47, 48, 49, 50, 51, 52, 53] (by decide +kernel) (by decide +kernel)
set_option maxRecDepth 20000 in
theorem gX2_speak_X0_markFirst_n213 : GoodIn wsX2_speak (wsX0_markFirst) := ggX2_speak_X0_markFirst
set_option maxRecDepth 20000 in
theorem ggX2_speak_X2_dropMarked : GoodIn wsX2_speak wsX2_dropMarked := goodIn_r _ [15, 16, 17, 1, 18, 6, 19, 20, 9, 10, 21, 22, 23, 24, 25, 26, 27, 28, 29, 30, 31, 32, 37, 38, 39, 40, 41, 42, 43, 44, 45, 54, 55, 56, 57, 58, 46, 47, 48, 49, 50, 51, 52, 53] (by decide +kernel) (by decide +kernel)
set_option maxRecDepth 20000 in
theorem gX2_speak_X2_dropMarked : GoodIn wsX2_speak (wsV RX2 78 RX2 yX2_dropMarked wsX2_dropMarked) := goodIn_app (goodIn_of _ (by decide +kernel)) ggX2_speak_X2_dropMarked
set_option maxRecDepth 20000 in
theorem ggX2_speak_X0_append : GoodIn wsX2_speak wsX0_append := goodIn_r _ [35, 25, 9, 36, 29, 30, 31, 46, 47, 48, 49, 50, 51, 52, 53] (by decide +kernel) (by decide +kernel)
set_option maxRecDepth 20000 in
theorem gX2_speak_X0_append_n216 : GoodIn wsX2_speak (wsX0_append) := ggX2_speak_X0_append
theorem dX2_speak_0 : decode cX2_speak 0 = .ok (.aload_n 0, 1) := by decide +kernel
theorem dX2_speak_1 : decode cX2_speak 1 = .ok (.getfield 10, 3) := by decide +kernel
theorem dX2_speak_4 : decode cX2_speak 4 = .ok (.getfield 118, 3) := by decide +kernel
theorem dX2_speak_7 : decode cX2_speak 7 = .ok (.bipush 48, 2) := by decide +kernel
theorem dX2_speak_9 : decode cX2_speak 9 = .ok (.if_icmp .lt 15, 3) := by decide +kernel
theorem dX2_speak_12 : decode cX2_speak 12 = .ok (.aload_n 0, 1) := by decide +kernel
theorem dX2_speak_13 : decode cX2_speak 13 = .ok (.getfield 10, 3) := by decide +kernel
theorem dX2_speak_16 : decode cX2_speak 16 = .ok (.invokevirtual 213, 3) := by decide +kernel
theorem dX2_speak_19 : decode cX2_speak 19 = .ok (.aload_n 0, 1) := by decide +kernel
theorem dX2_speak_20 : decode cX2_speak 20 = .ok (.invokevirtual 78, 3) := by decide +kernel
theorem dX2_speak_23 : decode cX2_speak 23 = .ok (.pop, 1) := by decide +kernel
theorem dX2_speak_24 : decode cX2_speak 24 = .ok (.iconst (-1), 1) := by decide +kernel
theorem dX2_speak_25 : decode cX2_speak 25 = .ok (.istore_n 3, 1) := by decide +kernel
theorem dX2_speak_26 : decode cX2_speak 26 = .ok (.aload_n 0, 1) := by decide +kernel
theorem dX2_speak_27 : decode cX2_speak 27 = .ok (.getfield 50, 3) := by decide +kernel
theorem dX2_speak_30 : decode cX2_speak 30 = .ok (.ifCond .eq 20, 3) := by decide +kernel
theorem dX2_speak_33 : decode cX2_speak 33 = .ok (.aload_n 0, 1) := by decide +kernel
theorem dX2_speak_34 : decode cX2_speak 34 = .ok (.getfield 59, 3) := by decide +kernel
theorem dX2_speak_37 : decode cX2_speak 37 = .ok (.iconst 1, 1) := by decide +kernel
theorem dX2_speak_38 : decode cX2_speak 38 = .ok (.isub, 1) := by decide +kernel
theorem dX2_speak_39 : decode cX2_speak 39 = .ok (.istore_n 3, 1) := by decide +kernel
theorem dX2_speak_40 : decode cX2_speak 40 = .ok (.aload_n 0, 1) := by decide +kernel
theorem dX2_speak_41 : decode cX2_speak 41 = .ok (.getfield 16, 3) := by decide +kernel
theorem dX2_speak_44 : decode cX2_speak 44 = .ok (.iload_n 3, 1) := by decide +kernel
theorem dX2_speak_45 : decode cX2_speak 45 = .ok (.dup2, 1) := by decide +kernel
theorem dX2_speak_46 : decode cX2_speak 46 = .ok (.iaload, 1) := by decide +kernel
theorem dX2_speak_47 : decode cX2_speak 47 = .ok (.iconst 1, 1) := by decide +kernel
theorem dX2_speak_48 : decode cX2_speak 48 = .ok (.iadd, 1) := by decide +kernel
theorem dX2_speak_49 : decode cX2_speak 49 = .ok (.iastore, 1) := by decide +kernel
theorem dX2_speak_50 : decode cX2_speak 50 = .ok (.aload_n 0, 1) := by decide +kernel
theorem dX2_speak_51 : decode cX2_speak 51 = .ok (.getfield 10, 3) := by decide +kernel
theorem dX2_speak_54 : decode cX2_speak 54 = .ok (.iload_n 1, 1) := by decide +kernel
theorem dX2_speak_55 : decode cX2_speak 55 = .ok (.iload_n 2, 1) := by decide +kernel
theorem dX2_speak_56 : decode cX2_speak 56 = .ok (.iload_n 3, 1) := by decide +kernel
theorem dX2_speak_57 : decode cX2_speak 57 = .ok (.invokevirtual 216, 3) := by decide +kernel
theorem dX2_speak_60 : decode cX2_speak 60 = .ok (.ireturn, 1) := by decide +kernel
set_option maxRecDepth 20000 in
theorem ggX2_markCompacted_X2_leastShipOffset : GoodIn wsX2_markCompacted wsX2_leastShipOffset := goodIn_r _ [6, 1, 7, 8, 9, 10, 11, 12, 26, 27, 28, 29, 30, 31, 32, 33, 34, 35, 36, 37, 38, 39, 40, 41, 42, 43, 44, 45, 46, 47] (by decide +kernel) (by decide +kernel)
set_option maxRecDepth 20000 in
theorem gX2_markCompacted_X2_leastShipOffset : GoodIn wsX2_markCompacted (wsV RX2 220 RX2 yX2_leastShipOffset wsX2_leastShipOffset) := goodIn_app (goodIn_of _ (by decide +kernel)) ggX2_markCompacted_X2_leastShipOffset
set_option maxRecDepth 20000 in
theorem ggX2_markCompacted_X0_markCompacted : GoodIn wsX2_markCompacted wsX0_markCompacted := goodIn_r _ [16, 17, 18, 19, 20, 21, 22, 23, 24, 14, 25, 35, 36, 37, 38, 39, 40, 41, 42] (by decide +kernel) (by decide +kernel)
set_option maxRecDepth 20000 in
theorem gX2_markCompacted_X0_markCompacted_n223 : GoodIn wsX2_markCompacted (wsX0_markCompacted) := ggX2_markCompacted_X0_markCompacted
theorem dX2_markCompacted_0 : decode cX2_markCompacted 0 = .ok (.aload_n 0, 1) := by decide +kernel
theorem dX2_markCompacted_1 : decode cX2_markCompacted 1 = .ok (.getfield 10, 3) := by decide +kernel
theorem dX2_markCompacted_4 : decode cX2_markCompacted 4 = .ok (.aload_n 0, 1) := by decide +kernel
theorem dX2_markCompacted_5 : decode cX2_markCompacted 5 = .ok (.invokevirtual 220, 3) := by decide +kernel
theorem dX2_markCompacted_8 : decode cX2_markCompacted 8 = .ok (.invokevirtual 223, 3) := by decide +kernel
theorem dX2_markCompacted_11 : decode cX2_markCompacted 11 = .ok (.return_, 1) := by decide +kernel
theorem dX2_leastShipOffset_0 : decode cX2_leastShipOffset 0 = .ok (.aload_n 0, 1) := by decide +kernel
theorem dX2_leastShipOffset_1 : decode cX2_leastShipOffset 1 = .ok (.getfield 10, 3) := by decide +kernel
theorem dX2_leastShipOffset_4 : decode cX2_leastShipOffset 4 = .ok (.getfield 121, 3) := by decide +kernel
theorem dX2_leastShipOffset_7 : decode cX2_leastShipOffset 7 = .ok (.istore_n 1, 1) := by decide +kernel
theorem dX2_leastShipOffset_8 : decode cX2_leastShipOffset 8 = .ok (.iconst 0, 1) := by decide +kernel
theorem dX2_leastShipOffset_9 : decode cX2_leastShipOffset 9 = .ok (.istore_n 2, 1) := by decide +kernel
theorem dX2_leastShipOffset_10 : decode cX2_leastShipOffset 10 = .ok (.iload_n 2, 1) := by decide +kernel
theorem dX2_leastShipOffset_11 : decode cX2_leastShipOffset 11 = .ok (.aload_n 0, 1) := by decide +kernel
theorem dX2_leastShipOffset_12 : decode cX2_leastShipOffset 12 = .ok (.getfield 90, 3) := by decide +kernel
theorem dX2_leastShipOffset_15 : decode cX2_leastShipOffset 15 = .ok (.if_icmp .ge 23, 3) := by decide +kernel
theorem dX2_leastShipOffset_18 : decode cX2_leastShipOffset 18 = .ok (.iload_n 1, 1) := by decide +kernel
theorem dX2_leastShipOffset_19 : decode cX2_leastShipOffset 19 = .ok (.aload_n 0, 1) := by decide +kernel
theorem dX2_leastShipOffset_20 : decode cX2_leastShipOffset 20 = .ok (.getfield 22, 3) := by decide +kernel
theorem dX2_leastShipOffset_23 : decode cX2_leastShipOffset 23 = .ok (.iload_n 2, 1) := by decide +kernel
theorem dX2_leastShipOffset_24 : decode cX2_leastShipOffset 24 = .ok (.aaload, 1) := by decide +kernel
theorem dX2_leastShipOffset_25 : decode cX2_leastShipOffset 25 = .ok (.getfield 98, 3) := by decide +kernel
theorem dX2_leastShipOffset_28 : decode cX2_leastShipOffset 28 = .ok (.invokestatic 225, 3) := by decide +kernel
theorem dX2_leastShipOffset_31 : decode cX2_leastShipOffset 31 = .ok (.istore_n 1, 1) := by decide +kernel
theorem dX2_leastShipOffset_32 : decode cX2_leastShipOffset 32 = .ok (.iinc 2 1, 3) := by decide +kernel
theorem dX2_leastShipOffset_35 : decode cX2_leastShipOffset 35 = .ok (.goto (-25), 3) := by decide +kernel
theorem dX2_leastShipOffset_38 : decode cX2_leastShipOffset 38 = .ok (.iload_n 1, 1) := by decide +kernel
theorem dX2_leastShipOffset_39 : decode cX2_leastShipOffset 39 = .ok (.ireturn, 1) := by decide +kernel
set_option maxRecDepth 20000 in
theorem ggX2_dropMarked_X0_countMarkedFrom : GoodIn wsX2_dropMarked wsX0_countMarkedFrom := goodIn_r _ [7, 8, 9, 10, 11, 12, 5, 13, 14, 36, 37, 38, 39, 40, 41, 42, 43] (by decide +kernel) (by decide +kernel)
set_option maxRecDepth 20000 in
theorem gX2_dropMarked_X0_countMarkedFrom_n183 : GoodIn wsX2_dropMarked (wsX0_countMarkedFrom) := ggX2_dropMarked_X0_countMarkedFrom
set_option maxRecDepth 20000 in
theorem ggX2_dropMarked_X0_removeMarked : GoodIn wsX2_dropMarked wsX0_removeMarked := goodIn_r _ [17, 8, 9, 14, 18, 19, 20, 21, 36, 37, 38, 39, 40, 41, 42, 43] (by decide +kernel) (by decide +kernel)
set_option maxRecDepth 20000 in
theorem gX2_dropMarked_X0_removeMarked_n230 : GoodIn wsX2_dropMarked (wsX0_removeMarked) := ggX2_dropMarked_X0_removeMarked
theorem dX2_dropMarked_0 : decode cX2_dropMarked 0 = .ok (.iconst 0, 1) := by decide +kernel
theorem dX2_dropMarked_1 : decode cX2_dropMarked 1 = .ok (.istore_n 1, 1) := by decide +kernel
theorem dX2_dropMarked_2 : decode cX2_dropMarked 2 = .ok (.iload_n 1, 1) := by decide +kernel
theorem dX2_dropMarked_3 : decode cX2_dropMarked 3 = .ok (.aload_n 0, 1) := by decide +kernel
theorem dX2_dropMarked_4 : decode cX2_dropMarked 4 = .ok (.getfield 90, 3) := by decide +kernel
theorem dX2_dropMarked_7 : decode cX2_dropMarked 7 = .ok (.if_icmp .ge 39, 3) := by decide +kernel
theorem dX2_dropMarked_10 : decode cX2_dropMarked 10 = .ok (.aload_n 0, 1) := by decide +kernel
theorem dX2_dropMarked_11 : decode cX2_dropMarked 11 = .ok (.getfield 22, 3) := by decide +kernel
theorem dX2_dropMarked_14 : decode cX2_dropMarked 14 = .ok (.iload_n 1, 1) := by decide +kernel
theorem dX2_dropMarked_15 : decode cX2_dropMarked 15 = .ok (.aaload, 1) := by decide +kernel
theorem dX2_dropMarked_16 : decode cX2_dropMarked 16 = .ok (.dup, 1) := by decide +kernel
theorem dX2_dropMarked_17 : decode cX2_dropMarked 17 = .ok (.getfield 168, 3) := by decide +kernel
theorem dX2_dropMarked_20 : decode cX2_dropMarked 20 = .ok (.aload_n 0, 1) := by decide +kernel
theorem dX2_dropMarked_21 : decode cX2_dropMarked 21 = .ok (.getfield 10, 3) := by decide +kernel
theorem dX2_dropMarked_24 : decode cX2_dropMarked 24 = .ok (.aload_n 0, 1) := by decide +kernel
theorem dX2_dropMarked_25 : decode cX2_dropMarked 25 = .ok (.getfield 22, 3) := by decide +kernel
theorem dX2_dropMarked_28 : decode cX2_dropMarked 28 = .ok (.iload_n 1, 1) := by decide +kernel
theorem dX2_dropMarked_29 : decode cX2_dropMarked 29 = .ok (.aaload, 1) := by decide +kernel
theorem dX2_dropMarked_30 : decode cX2_dropMarked 30 = .ok (.getfield 98, 3) := by decide +kernel
theorem dX2_dropMarked_33 : decode cX2_dropMarked 33 = .ok (.invokevirtual 183, 3) := by decide +kernel
theorem dX2_dropMarked_36 : decode cX2_dropMarked 36 = .ok (.iadd, 1) := by decide +kernel
theorem dX2_dropMarked_37 : decode cX2_dropMarked 37 = .ok (.putfield 168, 3) := by decide +kernel
theorem dX2_dropMarked_40 : decode cX2_dropMarked 40 = .ok (.iinc 1 1, 3) := by decide +kernel
theorem dX2_dropMarked_43 : decode cX2_dropMarked 43 = .ok (.goto (-41), 3) := by decide +kernel
theorem dX2_dropMarked_46 : decode cX2_dropMarked 46 = .ok (.aload_n 0, 1) := by decide +kernel
theorem dX2_dropMarked_47 : decode cX2_dropMarked 47 = .ok (.getfield 10, 3) := by decide +kernel
theorem dX2_dropMarked_50 : decode cX2_dropMarked 50 = .ok (.invokevirtual 230, 3) := by decide +kernel
theorem dX2_dropMarked_53 : decode cX2_dropMarked 53 = .ok (.ireturn, 1) := by decide +kernel
set_option maxRecDepth 20000 in
theorem ggX2_lag_X0_positionFrom : GoodIn wsX2_lag wsX0_positionFrom := goodIn_r _ [5, 6, 7, 17, 18, 19, 20, 21, 22, 23, 24] (by decide +kernel) (by decide +kernel)
set_option maxRecDepth 20000 in
theorem gX2_lag_X0_positionFrom_n233 : GoodIn wsX2_lag (wsX0_positionFrom) := ggX2_lag_X0_positionFrom
theorem dX2_lag_0 : decode cX2_lag 0 = .ok (.aload_n 0, 1) := by decide +kernel
theorem dX2_lag_1 : decode cX2_lag 1 = .ok (.getfield 10, 3) := by decide +kernel
theorem dX2_lag_4 : decode cX2_lag 4 = .ok (.getfield 118, 3) := by decide +kernel
theorem dX2_lag_7 : decode cX2_lag 7 = .ok (.aload_n 0, 1) := by decide +kernel
theorem dX2_lag_8 : decode cX2_lag 8 = .ok (.getfield 10, 3) := by decide +kernel
theorem dX2_lag_11 : decode cX2_lag 11 = .ok (.aload_n 1, 1) := by decide +kernel
theorem dX2_lag_12 : decode cX2_lag 12 = .ok (.getfield 98, 3) := by decide +kernel
theorem dX2_lag_15 : decode cX2_lag 15 = .ok (.invokevirtual 233, 3) := by decide +kernel
theorem dX2_lag_18 : decode cX2_lag 18 = .ok (.isub, 1) := by decide +kernel
theorem dX2_lag_19 : decode cX2_lag 19 = .ok (.ireturn, 1) := by decide +kernel
theorem dX2_mostHeard_0 : decode cX2_mostHeard 0 = .ok (.aload_n 0, 1) := by decide +kernel
theorem dX2_mostHeard_1 : decode cX2_mostHeard 1 = .ok (.getfield 50, 3) := by decide +kernel
theorem dX2_mostHeard_4 : decode cX2_mostHeard 4 = .ok (.ifCond .eq 7, 3) := by decide +kernel
theorem dX2_mostHeard_7 : decode cX2_mostHeard 7 = .ok (.iconst 0, 1) := by decide +kernel
theorem dX2_mostHeard_8 : decode cX2_mostHeard 8 = .ok (.goto 6, 3) := by decide +kernel
theorem dX2_mostHeard_11 : decode cX2_mostHeard 11 = .ok (.iload_n 1, 1) := by decide +kernel
theorem dX2_mostHeard_12 : decode cX2_mostHeard 12 = .ok (.iload_n 2, 1) := by decide +kernel
theorem dX2_mostHeard_13 : decode cX2_mostHeard 13 = .ok (.imul, 1) := by decide +kernel
theorem dX2_mostHeard_14 : decode cX2_mostHeard 14 = .ok (.ireturn, 1) := by decide +kernel
set_option maxRecDepth 20000 in
theorem ggX2_hearNext_X0_positionFrom : GoodIn wsX2_hearNext wsX0_positionFrom := goodIn_r _ [9, 10, 11, 33, 34, 35, 36, 37, 38, 39, 40] (by decide +kernel) (by decide +kernel)
set_option maxRecDepth 20000 in
theorem gX2_hearNext_X0_positionFrom_n233 : GoodIn wsX2_hearNext (wsX0_positionFrom) := ggX2_hearNext_X0_positionFrom
set_option maxRecDepth 20000 in
theorem ggX2_hearNext_X1_hear : GoodIn wsX2_hearNext wsX1_hear := goodIn_r _ [15, 16, 17, 18, 28, 29, 30, 31, 32] (by decide +kernel) (by decide +kernel)
set_option maxRecDepth 20000 in
theorem gX2_hearNext_X1_hear_n236 : GoodIn wsX2_hearNext (wsX1_hear) := ggX2_hearNext_X1_hear
theorem dX2_hearNext_0 : decode cX2_hearNext 0 = .ok (.aload_n 0, 1) := by decide +kernel
theorem dX2_hearNext_1 : decode cX2_hearNext 1 = .ok (.getfield 10, 3) := by decide +kernel
theorem dX2_hearNext_4 : decode cX2_hearNext 4 = .ok (.aload_n 1, 1) := by decide +kernel
theorem dX2_hearNext_5 : decode cX2_hearNext 5 = .ok (.getfield 98, 3) := by decide +kernel
theorem dX2_hearNext_8 : decode cX2_hearNext 8 = .ok (.invokevirtual 233, 3) := by decide +kernel
theorem dX2_hearNext_11 : decode cX2_hearNext 11 = .ok (.istore_n 3, 1) := by decide +kernel
theorem dX2_hearNext_12 : decode cX2_hearNext 12 = .ok (.aload_n 0, 1) := by decide +kernel
theorem dX2_hearNext_13 : decode cX2_hearNext 13 = .ok (.getfield 10, 3) := by decide +kernel
theorem dX2_hearNext_16 : decode cX2_hearNext 16 = .ok (.getfield 118, 3) := by decide +kernel
theorem dX2_hearNext_19 : decode cX2_hearNext 19 = .ok (.iload_n 3, 1) := by decide +kernel
theorem dX2_hearNext_20 : decode cX2_hearNext 20 = .ok (.iload_n 2, 1) := by decide +kernel
theorem dX2_hearNext_21 : decode cX2_hearNext 21 = .ok (.iadd, 1) := by decide +kernel
theorem dX2_hearNext_22 : decode cX2_hearNext 22 = .ok (.invokestatic 225, 3) := by decide +kernel
theorem dX2_hearNext_25 : decode cX2_hearNext 25 = .ok (.istore 4, 2) := by decide +kernel
theorem dX2_hearNext_27 : decode cX2_hearNext 27 = .ok (.iload_n 3, 1) := by decide +kernel
theorem dX2_hearNext_28 : decode cX2_hearNext 28 = .ok (.istore 5, 2) := by decide +kernel
theorem dX2_hearNext_30 : decode cX2_hearNext 30 = .ok (.iload 5, 2) := by decide +kernel
theorem dX2_hearNext_32 : decode cX2_hearNext 32 = .ok (.iload 4, 2) := by decide +kernel
theorem dX2_hearNext_34 : decode cX2_hearNext 34 = .ok (.if_icmp .ge 43, 3) := by decide +kernel
theorem dX2_hearNext_37 : decode cX2_hearNext 37 = .ok (.aload_n 1, 1) := by decide +kernel
theorem dX2_hearNext_38 : decode cX2_hearNext 38 = .ok (.aload_n 0, 1) := by decide +kernel
theorem dX2_hearNext_39 : decode cX2_hearNext 39 = .ok (.getfield 10, 3) := by decide +kernel
theorem dX2_hearNext_42 : decode cX2_hearNext 42 = .ok (.getfield 124, 3) := by decide +kernel
theorem dX2_hearNext_45 : decode cX2_hearNext 45 = .ok (.iload 5, 2) := by decide +kernel
theorem dX2_hearNext_47 : decode cX2_hearNext 47 = .ok (.iaload, 1) := by decide +kernel
theorem dX2_hearNext_48 : decode cX2_hearNext 48 = .ok (.aload_n 0, 1) := by decide +kernel
theorem dX2_hearNext_49 : decode cX2_hearNext 49 = .ok (.getfield 10, 3) := by decide +kernel
theorem dX2_hearNext_52 : decode cX2_hearNext 52 = .ok (.getfield 134, 3) := by decide +kernel
theorem dX2_hearNext_55 : decode cX2_hearNext 55 = .ok (.iload 5, 2) := by decide +kernel
theorem dX2_hearNext_57 : decode cX2_hearNext 57 = .ok (.iaload, 1) := by decide +kernel
theorem dX2_hearNext_58 : decode cX2_hearNext 58 = .ok (.aload_n 0, 1) := by decide +kernel
theorem dX2_hearNext_59 : decode cX2_hearNext 59 = .ok (.getfield 10, 3) := by decide +kernel
theorem dX2_hearNext_62 : decode cX2_hearNext 62 = .ok (.getfield 140, 3) := by decide +kernel
theorem dX2_hearNext_65 : decode cX2_hearNext 65 = .ok (.iload 5, 2) := by decide +kernel
theorem dX2_hearNext_67 : decode cX2_hearNext 67 = .ok (.iaload, 1) := by decide +kernel
theorem dX2_hearNext_68 : decode cX2_hearNext 68 = .ok (.invokevirtual 236, 3) := by decide +kernel
theorem dX2_hearNext_71 : decode cX2_hearNext 71 = .ok (.iinc 5 1, 3) := by decide +kernel
theorem dX2_hearNext_74 : decode cX2_hearNext 74 = .ok (.goto (-44), 3) := by decide +kernel
theorem dX2_hearNext_77 : decode cX2_hearNext 77 = .ok (.iload 4, 2) := by decide +kernel
theorem dX2_hearNext_79 : decode cX2_hearNext 79 = .ok (.iload_n 3, 1) := by decide +kernel
theorem dX2_hearNext_80 : decode cX2_hearNext 80 = .ok (.isub, 1) := by decide +kernel
theorem dX2_hearNext_81 : decode cX2_hearNext 81 = .ok (.ireturn, 1) := by decide +kernel
set_option maxRecDepth 20000 in
theorem ggX2_errorsAfter_X0_positionFrom : GoodIn wsX2_errorsAfter wsX0_positionFrom := goodIn_r _ [9, 10, 11, 35, 36, 37, 38, 39, 40, 41, 42] (by decide +kernel) (by decide +kernel)
set_option maxRecDepth 20000 in
theorem gX2_errorsAfter_X0_positionFrom_n233 : GoodIn wsX2_errorsAfter (wsX0_positionFrom) := ggX2_errorsAfter_X0_positionFrom
set_option maxRecDepth 20000 in
theorem ggX2_errorsAfter_X0_latestPosition : GoodIn wsX2_errorsAfter wsX0_latestPosition := goodIn_r _ [14, 15, 35, 36, 37, 38, 39, 40, 41, 42] (by decide +kernel) (by decide +kernel)
set_option maxRecDepth 20000 in
theorem gX2_errorsAfter_X0_latestPosition_n240 : GoodIn wsX2_errorsAfter (wsX0_latestPosition) := ggX2_errorsAfter_X0_latestPosition
set_option maxRecDepth 20000 in
theorem ggX2_errorsAfter_X0_latestValue : GoodIn wsX2_errorsAfter wsX0_latestValue := goodIn_r _ [18, 10, 19, 20, 12, 13, 7, 14, 15, 35, 36, 37, 38, 39, 40, 41, 42] (by decide +kernel) (by decide +kernel)
set_option maxRecDepth 20000 in
theorem gX2_errorsAfter_X0_latestValue_n152 : GoodIn wsX2_errorsAfter (wsX0_latestValue) := ggX2_errorsAfter_X0_latestValue
theorem dX2_errorsAfter_0 : decode cX2_errorsAfter 0 = .ok (.aload_n 0, 1) := by decide +kernel
theorem dX2_errorsAfter_1 : decode cX2_errorsAfter 1 = .ok (.getfield 10, 3) := by decide +kernel
theorem dX2_errorsAfter_4 : decode cX2_errorsAfter 4 = .ok (.aload_n 1, 1) := by decide +kernel
theorem dX2_errorsAfter_5 : decode cX2_errorsAfter 5 = .ok (.getfield 98, 3) := by decide +kernel
theorem dX2_errorsAfter_8 : decode cX2_errorsAfter 8 = .ok (.invokevirtual 233, 3) := by decide +kernel
theorem dX2_errorsAfter_11 : decode cX2_errorsAfter 11 = .ok (.istore_n 3, 1) := by decide +kernel
theorem dX2_errorsAfter_12 : decode cX2_errorsAfter 12 = .ok (.aload_n 0, 1) := by decide +kernel
theorem dX2_errorsAfter_13 : decode cX2_errorsAfter 13 = .ok (.getfield 10, 3) := by decide +kernel
theorem dX2_errorsAfter_16 : decode cX2_errorsAfter 16 = .ok (.getfield 118, 3) := by decide +kernel
theorem dX2_errorsAfter_19 : decode cX2_errorsAfter 19 = .ok (.iload_n 3, 1) := by decide +kernel
theorem dX2_errorsAfter_20 : decode cX2_errorsAfter 20 = .ok (.iload_n 2, 1) := by decide +kernel
theorem dX2_errorsAfter_21 : decode cX2_errorsAfter 21 = .ok (.iadd, 1) := by decide +kernel
theorem dX2_errorsAfter_22 : decode cX2_errorsAfter 22 = .ok (.invokestatic 225, 3) := by decide +kernel
theorem dX2_errorsAfter_25 : decode cX2_errorsAfter 25 = .ok (.istore 4, 2) := by decide +kernel
theorem dX2_errorsAfter_27 : decode cX2_errorsAfter 27 = .ok (.iconst 0, 1) := by decide +kernel
theorem dX2_errorsAfter_28 : decode cX2_errorsAfter 28 = .ok (.istore 5, 2) := by decide +kernel
theorem dX2_errorsAfter_30 : decode cX2_errorsAfter 30 = .ok (.iconst 0, 1) := by decide +kernel
theorem dX2_errorsAfter_31 : decode cX2_errorsAfter 31 = .ok (.istore 6, 2) := by decide +kernel
theorem dX2_errorsAfter_33 : decode cX2_errorsAfter 33 = .ok (.iload 6, 2) := by decide +kernel
theorem dX2_errorsAfter_35 : decode cX2_errorsAfter 35 = .ok (.bipush 10, 2) := by decide +kernel
theorem dX2_errorsAfter_37 : decode cX2_errorsAfter 37 = .ok (.if_icmp .ge 68, 3) := by decide +kernel
theorem dX2_errorsAfter_40 : decode cX2_errorsAfter 40 = .ok (.aload_n 0, 1) := by decide +kernel
theorem dX2_errorsAfter_41 : decode cX2_errorsAfter 41 = .ok (.getfield 10, 3) := by decide +kernel
theorem dX2_errorsAfter_44 : decode cX2_errorsAfter 44 = .ok (.iload 6, 2) := by decide +kernel
theorem dX2_errorsAfter_46 : decode cX2_errorsAfter 46 = .ok (.iload_n 3, 1) := by decide +kernel
theorem dX2_errorsAfter_47 : decode cX2_errorsAfter 47 = .ok (.iload 4, 2) := by decide +kernel
theorem dX2_errorsAfter_49 : decode cX2_errorsAfter 49 = .ok (.invokevirtual 240, 3) := by decide +kernel
theorem dX2_errorsAfter_52 : decode cX2_errorsAfter 52 = .ok (.istore 7, 2) := by decide +kernel
theorem dX2_errorsAfter_54 : decode cX2_errorsAfter 54 = .ok (.iload 7, 2) := by decide +kernel
theorem dX2_errorsAfter_56 : decode cX2_errorsAfter 56 = .ok (.iconst (-1), 1) := by decide +kernel
theorem dX2_errorsAfter_57 : decode cX2_errorsAfter 57 = .ok (.if_icmp .ne 13, 3) := by decide +kernel
theorem dX2_errorsAfter_60 : decode cX2_errorsAfter 60 = .ok (.aload_n 1, 1) := by decide +kernel
theorem dX2_errorsAfter_61 : decode cX2_errorsAfter 61 = .ok (.getfield 171, 3) := by decide +kernel
theorem dX2_errorsAfter_64 : decode cX2_errorsAfter 64 = .ok (.iload 6, 2) := by decide +kernel
theorem dX2_errorsAfter_66 : decode cX2_errorsAfter 66 = .ok (.iaload, 1) := by decide +kernel
theorem dX2_errorsAfter_67 : decode cX2_errorsAfter 67 = .ok (.goto 13, 3) := by decide +kernel
theorem dX2_errorsAfter_70 : decode cX2_errorsAfter 70 = .ok (.aload_n 0, 1) := by decide +kernel
theorem dX2_errorsAfter_71 : decode cX2_errorsAfter 71 = .ok (.getfield 10, 3) := by decide +kernel
theorem dX2_errorsAfter_74 : decode cX2_errorsAfter 74 = .ok (.getfield 140, 3) := by decide +kernel
theorem dX2_errorsAfter_77 : decode cX2_errorsAfter 77 = .ok (.iload 7, 2) := by decide +kernel
theorem dX2_errorsAfter_79 : decode cX2_errorsAfter 79 = .ok (.iaload, 1) := by decide +kernel
theorem dX2_errorsAfter_80 : decode cX2_errorsAfter 80 = .ok (.istore 8, 2) := by decide +kernel
theorem dX2_errorsAfter_82 : decode cX2_errorsAfter 82 = .ok (.iload 8, 2) := by decide +kernel
theorem dX2_errorsAfter_84 : decode cX2_errorsAfter 84 = .ok (.aload_n 0, 1) := by decide +kernel
theorem dX2_errorsAfter_85 : decode cX2_errorsAfter 85 = .ok (.getfield 10, 3) := by decide +kernel
theorem dX2_errorsAfter_88 : decode cX2_errorsAfter 88 = .ok (.iload 6, 2) := by decide +kernel
theorem dX2_errorsAfter_90 : decode cX2_errorsAfter 90 = .ok (.invokevirtual 152, 3) := by decide +kernel
theorem dX2_errorsAfter_93 : decode cX2_errorsAfter 93 = .ok (.if_icmp .eq 6, 3) := by decide +kernel
theorem dX2_errorsAfter_96 : decode cX2_errorsAfter 96 = .ok (.iinc 5 1, 3) := by decide +kernel
theorem dX2_errorsAfter_99 : decode cX2_errorsAfter 99 = .ok (.iinc 6 1, 3) := by decide +kernel
theorem dX2_errorsAfter_102 : decode cX2_errorsAfter 102 = .ok (.goto (-69), 3) := by decide +kernel
theorem dX2_errorsAfter_105 : decode cX2_errorsAfter 105 = .ok (.iload 5, 2) := by decide +kernel
theorem dX2_errorsAfter_107 : decode cX2_errorsAfter 107 = .ok (.ireturn, 1) := by decide +kernel
theorem dX2_isKey_0 : decode cX2_isKey 0 = .ok (.iload_n 0, 1) := by decide +kernel
theorem dX2_isKey_1 : decode cX2_isKey 1 = .ok (.ifCond .lt 13, 3) := by decide +kernel
theorem dX2_isKey_4 : decode cX2_isKey 4 = .ok (.iload_n 0, 1) := by decide +kernel
theorem dX2_isKey_5 : decode cX2_isKey 5 = .ok (.bipush 10, 2) := by decide +kernel
theorem dX2_isKey_7 : decode cX2_isKey 7 = .ok (.if_icmp .ge 7, 3) := by decide +kernel
theorem dX2_isKey_10 : decode cX2_isKey 10 = .ok (.iconst 1, 1) := by decide +kernel
theorem dX2_isKey_11 : decode cX2_isKey 11 = .ok (.goto 4, 3) := by decide +kernel
theorem dX2_isKey_14 : decode cX2_isKey 14 = .ok (.iconst 0, 1) := by decide +kernel
theorem dX2_isKey_15 : decode cX2_isKey 15 = .ok (.ireturn, 1) := by decide +kernel
set_option maxRecDepth 20000 in
theorem ggX2_checkKey_X2_isKey : GoodIn wsX2_checkKey wsX2_isKey := goodIn_r _ [6] (by decide +kernel) (by decide +kernel)
set_option maxRecDepth 20000 in
theorem gX2_checkKey_X2_isKey : GoodIn wsX2_checkKey (va_wsS RX2 33 yX2_isKey wsX2_isKey) := goodIn_app (goodIn_of _ (by decide +kernel)) ggX2_checkKey_X2_isKey
theorem dX2_checkKey_0 : decode cX2_checkKey 0 = .ok (.iload_n 0, 1) := by decide +kernel
theorem dX2_checkKey_1 : decode cX2_checkKey 1 = .ok (.invokestatic 33, 3) := by decide +kernel
theorem dX2_checkKey_4 : decode cX2_checkKey 4 = .ok (.ifCond .ne 13, 3) := by decide +kernel
theorem dX2_checkKey_7 : decode cX2_checkKey 7 = .ok (.new 243, 3) := by decide +kernel
theorem dX2_checkKey_10 : decode cX2_checkKey 10 = .ok (.dup, 1) := by decide +kernel
theorem dX2_checkKey_11 : decode cX2_checkKey 11 = .ok (.ldc 39, 2) := by decide +kernel
theorem dX2_checkKey_13 : decode cX2_checkKey 13 = .ok (.invokespecial 245, 3) := by decide +kernel
theorem dX2_checkKey_16 : decode cX2_checkKey 16 = .ok (.athrow, 1) := by decide +kernel
theorem dX2_checkKey_17 : decode cX2_checkKey 17 = .ok (.return_, 1) := by decide +kernel
theorem dX2_checkHours_0 : decode cX2_checkHours 0 = .ok (.iload_n 0, 1) := by decide +kernel
theorem dX2_checkHours_1 : decode cX2_checkHours 1 = .ok (.iconst 1, 1) := by decide +kernel
theorem dX2_checkHours_2 : decode cX2_checkHours 2 = .ok (.if_icmp .lt 9, 3) := by decide +kernel
theorem dX2_checkHours_5 : decode cX2_checkHours 5 = .ok (.iload_n 0, 1) := by decide +kernel
theorem dX2_checkHours_6 : decode cX2_checkHours 6 = .ok (.bipush 60, 2) := by decide +kernel
theorem dX2_checkHours_8 : decode cX2_checkHours 8 = .ok (.if_icmp .le 13, 3) := by decide +kernel
theorem dX2_checkHours_11 : decode cX2_checkHours 11 = .ok (.new 37, 3) := by decide +kernel
theorem dX2_checkHours_14 : decode cX2_checkHours 14 = .ok (.dup, 1) := by decide +kernel
theorem dX2_checkHours_15 : decode cX2_checkHours 15 = .ok (.ldc 246, 2) := by decide +kernel
theorem dX2_checkHours_17 : decode cX2_checkHours 17 = .ok (.invokespecial 41, 3) := by decide +kernel
theorem dX2_checkHours_20 : decode cX2_checkHours 20 = .ok (.athrow, 1) := by decide +kernel
theorem dX2_checkHours_21 : decode cX2_checkHours 21 = .ok (.return_, 1) := by decide +kernel
theorem dX2_checkReachable_0 : decode cX2_checkReachable 0 = .ok (.iload_n 1, 1) := by decide +kernel
theorem dX2_checkReachable_1 : decode cX2_checkReachable 1 = .ok (.ifCond .lt 14, 3) := by decide +kernel
theorem dX2_checkReachable_4 : decode cX2_checkReachable 4 = .ok (.iload_n 1, 1) := by decide +kernel
theorem dX2_checkReachable_5 : decode cX2_checkReachable 5 = .ok (.aload_n 0, 1) := by decide +kernel
theorem dX2_checkReachable_6 : decode cX2_checkReachable 6 = .ok (.getfield 10, 3) := by decide +kernel
theorem dX2_checkReachable_9 : decode cX2_checkReachable 9 = .ok (.getfield 121, 3) := by decide +kernel
theorem dX2_checkReachable_12 : decode cX2_checkReachable 12 = .ok (.if_icmp .le 13, 3) := by decide +kernel
theorem dX2_checkReachable_15 : decode cX2_checkReachable 15 = .ok (.new 37, 3) := by decide +kernel
theorem dX2_checkReachable_18 : decode cX2_checkReachable 18 = .ok (.dup, 1) := by decide +kernel
theorem dX2_checkReachable_19 : decode cX2_checkReachable 19 = .ok (.ldc 248, 2) := by decide +kernel
theorem dX2_checkReachable_21 : decode cX2_checkReachable 21 = .ok (.invokespecial 41, 3) := by decide +kernel
theorem dX2_checkReachable_24 : decode cX2_checkReachable 24 = .ok (.athrow, 1) := by decide +kernel
theorem dX2_checkReachable_25 : decode cX2_checkReachable 25 = .ok (.return_, 1) := by decide +kernel
theorem dX2_checkStorm_0 : decode cX2_checkStorm 0 = .ok (.iload_n 1, 1) := by decide +kernel
theorem dX2_checkStorm_1 : decode cX2_checkStorm 1 = .ok (.ifCond .lt 11, 3) := by decide +kernel
theorem dX2_checkStorm_4 : decode cX2_checkStorm 4 = .ok (.iload_n 1, 1) := by decide +kernel
theorem dX2_checkStorm_5 : decode cX2_checkStorm 5 = .ok (.aload_n 0, 1) := by decide +kernel
theorem dX2_checkStorm_6 : decode cX2_checkStorm 6 = .ok (.getfield 59, 3) := by decide +kernel
theorem dX2_checkStorm_9 : decode cX2_checkStorm 9 = .ok (.if_icmp .lt 13, 3) := by decide +kernel
theorem dX2_checkStorm_12 : decode cX2_checkStorm 12 = .ok (.new 243, 3) := by decide +kernel
theorem dX2_checkStorm_15 : decode cX2_checkStorm 15 = .ok (.dup, 1) := by decide +kernel
theorem dX2_checkStorm_16 : decode cX2_checkStorm 16 = .ok (.ldc 250, 2) := by decide +kernel
theorem dX2_checkStorm_18 : decode cX2_checkStorm 18 = .ok (.invokespecial 245, 3) := by decide +kernel
theorem dX2_checkStorm_21 : decode cX2_checkStorm 21 = .ok (.athrow, 1) := by decide +kernel
theorem dX2_checkStorm_22 : decode cX2_checkStorm 22 = .ok (.return_, 1) := by decide +kernel
theorem dX2_shipNumbered_0 : decode cX2_shipNumbered 0 = .ok (.iload_n 1, 1) := by decide +kernel
theorem dX2_shipNumbered_1 : decode cX2_shipNumbered 1 = .ok (.ifCond .lt 11, 3) := by decide +kernel
theorem dX2_shipNumbered_4 : decode cX2_shipNumbered 4 = .ok (.iload_n 1, 1) := by decide +kernel
theorem dX2_shipNumbered_5 : decode cX2_shipNumbered 5 = .ok (.aload_n 0, 1) := by decide +kernel
theorem dX2_shipNumbered_6 : decode cX2_shipNumbered 6 = .ok (.getfield 90, 3) := by decide +kernel
theorem dX2_shipNumbered_9 : decode cX2_shipNumbered 9 = .ok (.if_icmp .lt 13, 3) := by decide +kernel
theorem dX2_shipNumbered_12 : decode cX2_shipNumbered 12 = .ok (.new 243, 3) := by decide +kernel
theorem dX2_shipNumbered_15 : decode cX2_shipNumbered 15 = .ok (.dup, 1) := by decide +kernel
theorem dX2_shipNumbered_16 : decode cX2_shipNumbered 16 = .ok (.ldc 252, 2) := by decide +kernel
theorem dX2_shipNumbered_18 : decode cX2_shipNumbered 18 = .ok (.invokespecial 245, 3) := by decide +kernel
theorem dX2_shipNumbered_21 : decode cX2_shipNumbered 21 = .ok (.athrow, 1) := by decide +kernel
theorem dX2_shipNumbered_22 : decode cX2_shipNumbered 22 = .ok (.aload_n 0, 1) := by decide +kernel
theorem dX2_shipNumbered_23 : decode cX2_shipNumbered 23 = .ok (.getfield 22, 3) := by decide +kernel
theorem dX2_shipNumbered_26 : decode cX2_shipNumbered 26 = .ok (.iload_n 1, 1) := by decide +kernel
theorem dX2_shipNumbered_27 : decode cX2_shipNumbered 27 = .ok (.aaload, 1) := by decide +kernel
theorem dX2_shipNumbered_28 : decode cX2_shipNumbered 28 = .ok (.areturn, 1) := by decide +kernel
set_option maxRecDepth 20000 in
theorem ggX2_keptPosition_X0_positionOf : GoodIn wsX2_keptPosition wsX0_positionOf := goodIn_r _ [7, 8, 9, 10, 11, 12, 5, 13, 23, 24, 25, 26, 27, 28, 29, 30] (by decide +kernel) (by decide +kernel)
set_option maxRecDepth 20000 in
theorem gX2_keptPosition_X0_positionOf_n130 : GoodIn wsX2_keptPosition (wsX0_positionOf) := ggX2_keptPosition_X0_positionOf
theorem dX2_keptPosition_0 : decode cX2_keptPosition 0 = .ok (.aload_n 0, 1) := by decide +kernel
theorem dX2_keptPosition_1 : decode cX2_keptPosition 1 = .ok (.getfield 10, 3) := by decide +kernel
theorem dX2_keptPosition_4 : decode cX2_keptPosition 4 = .ok (.iload_n 1, 1) := by decide +kernel
theorem dX2_keptPosition_5 : decode cX2_keptPosition 5 = .ok (.invokevirtual 130, 3) := by decide +kernel
theorem dX2_keptPosition_8 : decode cX2_keptPosition 8 = .ok (.istore_n 2, 1) := by decide +kernel
theorem dX2_keptPosition_9 : decode cX2_keptPosition 9 = .ok (.iload_n 2, 1) := by decide +kernel
theorem dX2_keptPosition_10 : decode cX2_keptPosition 10 = .ok (.iconst (-1), 1) := by decide +kernel
theorem dX2_keptPosition_11 : decode cX2_keptPosition 11 = .ok (.if_icmp .ne 13, 3) := by decide +kernel
theorem dX2_keptPosition_14 : decode cX2_keptPosition 14 = .ok (.new 243, 3) := by decide +kernel
theorem dX2_keptPosition_17 : decode cX2_keptPosition 17 = .ok (.dup, 1) := by decide +kernel
theorem dX2_keptPosition_18 : decode cX2_keptPosition 18 = .ok (.ldc 254, 2) := by decide +kernel
theorem dX2_keptPosition_20 : decode cX2_keptPosition 20 = .ok (.invokespecial 245, 3) := by decide +kernel
theorem dX2_keptPosition_23 : decode cX2_keptPosition 23 = .ok (.athrow, 1) := by decide +kernel
theorem dX2_keptPosition_24 : decode cX2_keptPosition 24 = .ok (.iload_n 2, 1) := by decide +kernel
theorem dX2_keptPosition_25 : decode cX2_keptPosition 25 = .ok (.ireturn, 1) := by decide +kernel
end
section
theorem dX3_init_0 : decode cX3_init 0 = .ok (.aload_n 0, 1) := by decide +kernel
theorem dX3_init_1 : decode cX3_init 1 = .ok (.invokespecial 1, 3) := by decide +kernel
theorem dX3_init_4 : decode cX3_init 4 = .ok (.aload_n 0, 1) := by decide +kernel
theorem dX3_init_5 : decode cX3_init 5 = .ok (.iconst 0, 1) := by decide +kernel
theorem dX3_init_6 : decode cX3_init 6 = .ok (.anewarray 7, 3) := by decide +kernel
theorem dX3_init_9 : decode cX3_init 9 = .ok (.putfield 9, 3) := by decide +kernel
theorem dX3_init_12 : decode cX3_init 12 = .ok (.aload_n 0, 1) := by decide +kernel
theorem dX3_init_13 : decode cX3_init 13 = .ok (.iconst 0, 1) := by decide +kernel
theorem dX3_init_14 : decode cX3_init 14 = .ok (.newarray .int, 2) := by decide +kernel
theorem dX3_init_16 : decode cX3_init 16 = .ok (.putfield 15, 3) := by decide +kernel
theorem dX3_init_19 : decode cX3_init 19 = .ok (.aload_n 0, 1) := by decide +kernel
theorem dX3_init_20 : decode cX3_init 20 = .ok (.iconst 0, 1) := by decide +kernel
theorem dX3_init_21 : decode cX3_init 21 = .ok (.anewarray 7, 3) := by decide +kernel
theorem dX3_init_24 : decode cX3_init 24 = .ok (.putfield 18, 3) := by decide +kernel
theorem dX3_init_27 : decode cX3_init 27 = .ok (.return_, 1) := by decide +kernel
theorem dX3_with_0 : decode cX3_with 0 = .ok (.aload_n 0, 1) := by decide +kernel
theorem dX3_with_1 : decode cX3_with 1 = .ok (.arraylength, 1) := by decide +kernel
theorem dX3_with_2 : decode cX3_with 2 = .ok (.iconst 1, 1) := by decide +kernel
theorem dX3_with_3 : decode cX3_with 3 = .ok (.iadd, 1) := by decide +kernel
theorem dX3_with_4 : decode cX3_with 4 = .ok (.anewarray 7, 3) := by decide +kernel
theorem dX3_with_7 : decode cX3_with 7 = .ok (.astore_n 2, 1) := by decide +kernel
theorem dX3_with_8 : decode cX3_with 8 = .ok (.iconst 0, 1) := by decide +kernel
theorem dX3_with_9 : decode cX3_with 9 = .ok (.istore_n 3, 1) := by decide +kernel
theorem dX3_with_10 : decode cX3_with 10 = .ok (.iload_n 3, 1) := by decide +kernel
theorem dX3_with_11 : decode cX3_with 11 = .ok (.aload_n 0, 1) := by decide +kernel
theorem dX3_with_12 : decode cX3_with 12 = .ok (.arraylength, 1) := by decide +kernel
theorem dX3_with_13 : decode cX3_with 13 = .ok (.if_icmp .ge 15, 3) := by decide +kernel
theorem dX3_with_16 : decode cX3_with 16 = .ok (.aload_n 2, 1) := by decide +kernel
theorem dX3_with_17 : decode cX3_with 17 = .ok (.iload_n 3, 1) := by decide +kernel
theorem dX3_with_18 : decode cX3_with 18 = .ok (.aload_n 0, 1) := by decide +kernel
theorem dX3_with_19 : decode cX3_with 19 = .ok (.iload_n 3, 1) := by decide +kernel
theorem dX3_with_20 : decode cX3_with 20 = .ok (.aaload, 1) := by decide +kernel
theorem dX3_with_21 : decode cX3_with 21 = .ok (.aastore, 1) := by decide +kernel
theorem dX3_with_22 : decode cX3_with 22 = .ok (.iinc 3 1, 3) := by decide +kernel
theorem dX3_with_25 : decode cX3_with 25 = .ok (.goto (-15), 3) := by decide +kernel
theorem dX3_with_28 : decode cX3_with 28 = .ok (.aload_n 2, 1) := by decide +kernel
theorem dX3_with_29 : decode cX3_with 29 = .ok (.aload_n 0, 1) := by decide +kernel
theorem dX3_with_30 : decode cX3_with 30 = .ok (.arraylength, 1) := by decide +kernel
theorem dX3_with_31 : decode cX3_with 31 = .ok (.aload_n 1, 1) := by decide +kernel
theorem dX3_with_32 : decode cX3_with 32 = .ok (.aastore, 1) := by decide +kernel
theorem dX3_with_33 : decode cX3_with 33 = .ok (.aload_n 2, 1) := by decide +kernel
theorem dX3_with_34 : decode cX3_with 34 = .ok (.areturn, 1) := by decide +kernel
theorem dX3_dropAt_0 : decode cX3_dropAt 0 = .ok (.aload_n 0, 1) := by decide +kernel
theorem dX3_dropAt_1 : decode cX3_dropAt 1 = .ok (.getfield 9, 3) := by decide +kernel
theorem dX3_dropAt_4 : decode cX3_dropAt 4 = .ok (.arraylength, 1) := by decide +kernel
theorem dX3_dropAt_5 : decode cX3_dropAt 5 = .ok (.iconst 1, 1) := by decide +kernel
theorem dX3_dropAt_6 : decode cX3_dropAt 6 = .ok (.isub, 1) := by decide +kernel
theorem dX3_dropAt_7 : decode cX3_dropAt 7 = .ok (.anewarray 7, 3) := by decide +kernel
theorem dX3_dropAt_10 : decode cX3_dropAt 10 = .ok (.astore_n 2, 1) := by decide +kernel
theorem dX3_dropAt_11 : decode cX3_dropAt 11 = .ok (.iconst 0, 1) := by decide +kernel
theorem dX3_dropAt_12 : decode cX3_dropAt 12 = .ok (.istore_n 3, 1) := by decide +kernel
theorem dX3_dropAt_13 : decode cX3_dropAt 13 = .ok (.iload_n 3, 1) := by decide +kernel
theorem dX3_dropAt_14 : decode cX3_dropAt 14 = .ok (.aload_n 2, 1) := by decide +kernel
theorem dX3_dropAt_15 : decode cX3_dropAt 15 = .ok (.arraylength, 1) := by decide +kernel
theorem dX3_dropAt_16 : decode cX3_dropAt 16 = .ok (.if_icmp .ge 29, 3) := by decide +kernel
theorem dX3_dropAt_19 : decode cX3_dropAt 19 = .ok (.aload_n 2, 1) := by decide +kernel
theorem dX3_dropAt_20 : decode cX3_dropAt 20 = .ok (.iload_n 3, 1) := by decide +kernel
theorem dX3_dropAt_21 : decode cX3_dropAt 21 = .ok (.aload_n 0, 1) := by decide +kernel
theorem dX3_dropAt_22 : decode cX3_dropAt 22 = .ok (.getfield 9, 3) := by decide +kernel
theorem dX3_dropAt_25 : decode cX3_dropAt 25 = .ok (.iload_n 3, 1) := by decide +kernel
theorem dX3_dropAt_26 : decode cX3_dropAt 26 = .ok (.iload_n 1, 1) := by decide +kernel
theorem dX3_dropAt_27 : decode cX3_dropAt 27 = .ok (.if_icmp .ge 7, 3) := by decide +kernel
theorem dX3_dropAt_30 : decode cX3_dropAt 30 = .ok (.iload_n 3, 1) := by decide +kernel
theorem dX3_dropAt_31 : decode cX3_dropAt 31 = .ok (.goto 6, 3) := by decide +kernel
theorem dX3_dropAt_34 : decode cX3_dropAt 34 = .ok (.iload_n 3, 1) := by decide +kernel
theorem dX3_dropAt_35 : decode cX3_dropAt 35 = .ok (.iconst 1, 1) := by decide +kernel
theorem dX3_dropAt_36 : decode cX3_dropAt 36 = .ok (.iadd, 1) := by decide +kernel
theorem dX3_dropAt_37 : decode cX3_dropAt 37 = .ok (.aaload, 1) := by decide +kernel
theorem dX3_dropAt_38 : decode cX3_dropAt 38 = .ok (.aastore, 1) := by decide +kernel
theorem dX3_dropAt_39 : decode cX3_dropAt 39 = .ok (.iinc 3 1, 3) := by decide +kernel
theorem dX3_dropAt_42 : decode cX3_dropAt 42 = .ok (.goto (-29), 3) := by decide +kernel
theorem dX3_dropAt_45 : decode cX3_dropAt 45 = .ok (.aload_n 0, 1) := by decide +kernel
theorem dX3_dropAt_46 : decode cX3_dropAt 46 = .ok (.getfield 18, 3) := by decide +kernel
theorem dX3_dropAt_49 : decode cX3_dropAt 49 = .ok (.astore_n 3, 1) := by decide +kernel
theorem dX3_dropAt_50 : decode cX3_dropAt 50 = .ok (.aload_n 3, 1) := by decide +kernel
theorem dX3_dropAt_51 : decode cX3_dropAt 51 = .ok (.arraylength, 1) := by decide +kernel
theorem dX3_dropAt_52 : decode cX3_dropAt 52 = .ok (.istore 4, 2) := by decide +kernel
theorem dX3_dropAt_54 : decode cX3_dropAt 54 = .ok (.iconst 0, 1) := by decide +kernel
theorem dX3_dropAt_55 : decode cX3_dropAt 55 = .ok (.istore 5, 2) := by decide +kernel
theorem dX3_dropAt_57 : decode cX3_dropAt 57 = .ok (.iload 5, 2) := by decide +kernel
theorem dX3_dropAt_59 : decode cX3_dropAt 59 = .ok (.iload 4, 2) := by decide +kernel
theorem dX3_dropAt_61 : decode cX3_dropAt 61 = .ok (.if_icmp .ge 38, 3) := by decide +kernel
theorem dX3_dropAt_64 : decode cX3_dropAt 64 = .ok (.aload_n 3, 1) := by decide +kernel
theorem dX3_dropAt_65 : decode cX3_dropAt 65 = .ok (.iload 5, 2) := by decide +kernel
theorem dX3_dropAt_67 : decode cX3_dropAt 67 = .ok (.aaload, 1) := by decide +kernel
theorem dX3_dropAt_68 : decode cX3_dropAt 68 = .ok (.astore 6, 2) := by decide +kernel
theorem dX3_dropAt_70 : decode cX3_dropAt 70 = .ok (.aload 6, 2) := by decide +kernel
theorem dX3_dropAt_72 : decode cX3_dropAt 72 = .ok (.iconst 1, 1) := by decide +kernel
theorem dX3_dropAt_73 : decode cX3_dropAt 73 = .ok (.iaload, 1) := by decide +kernel
theorem dX3_dropAt_74 : decode cX3_dropAt 74 = .ok (.aload_n 0, 1) := by decide +kernel
theorem dX3_dropAt_75 : decode cX3_dropAt 75 = .ok (.getfield 9, 3) := by decide +kernel
theorem dX3_dropAt_78 : decode cX3_dropAt 78 = .ok (.iload_n 1, 1) := by decide +kernel
theorem dX3_dropAt_79 : decode cX3_dropAt 79 = .ok (.aaload, 1) := by decide +kernel
theorem dX3_dropAt_80 : decode cX3_dropAt 80 = .ok (.iconst 0, 1) := by decide +kernel
theorem dX3_dropAt_81 : decode cX3_dropAt 81 = .ok (.iaload, 1) := by decide +kernel
theorem dX3_dropAt_82 : decode cX3_dropAt 82 = .ok (.if_icmp .gt 11, 3) := by decide +kernel
theorem dX3_dropAt_85 : decode cX3_dropAt 85 = .ok (.aload 6, 2) := by decide +kernel
theorem dX3_dropAt_87 : decode cX3_dropAt 87 = .ok (.iconst 3, 1) := by decide +kernel
theorem dX3_dropAt_88 : decode cX3_dropAt 88 = .ok (.dup2, 1) := by decide +kernel
theorem dX3_dropAt_89 : decode cX3_dropAt 89 = .ok (.iaload, 1) := by decide +kernel
theorem dX3_dropAt_90 : decode cX3_dropAt 90 = .ok (.iconst 1, 1) := by decide +kernel
theorem dX3_dropAt_91 : decode cX3_dropAt 91 = .ok (.iadd, 1) := by decide +kernel
theorem dX3_dropAt_92 : decode cX3_dropAt 92 = .ok (.iastore, 1) := by decide +kernel
theorem dX3_dropAt_93 : decode cX3_dropAt 93 = .ok (.iinc 5 1, 3) := by decide +kernel
theorem dX3_dropAt_96 : decode cX3_dropAt 96 = .ok (.goto (-39), 3) := by decide +kernel
theorem dX3_dropAt_99 : decode cX3_dropAt 99 = .ok (.aload_n 0, 1) := by decide +kernel
theorem dX3_dropAt_100 : decode cX3_dropAt 100 = .ok (.aload_n 2, 1) := by decide +kernel
theorem dX3_dropAt_101 : decode cX3_dropAt 101 = .ok (.putfield 9, 3) := by decide +kernel
theorem dX3_dropAt_104 : decode cX3_dropAt 104 = .ok (.aload_n 0, 1) := by decide +kernel
theorem dX3_dropAt_105 : decode cX3_dropAt 105 = .ok (.dup, 1) := by decide +kernel
theorem dX3_dropAt_106 : decode cX3_dropAt 106 = .ok (.getfield 21, 3) := by decide +kernel
theorem dX3_dropAt_109 : decode cX3_dropAt 109 = .ok (.iconst 1, 1) := by decide +kernel
theorem dX3_dropAt_110 : decode cX3_dropAt 110 = .ok (.iadd, 1) := by decide +kernel
theorem dX3_dropAt_111 : decode cX3_dropAt 111 = .ok (.putfield 21, 3) := by decide +kernel
theorem dX3_dropAt_114 : decode cX3_dropAt 114 = .ok (.return_, 1) := by decide +kernel
set_option maxRecDepth 20000 in
theorem ggX3_say_X3_dropAt : GoodIn wsX3_say wsX3_dropAt := goodIn_r _ [10, 1, 11, 12, 13, 17, 18, 19, 20, 21, 22, 23] (by decide +kernel) (by decide +kernel)
set_option maxRecDepth 20000 in
theorem gX3_say_X3_dropAt : GoodIn wsX3_say (wsV RX3 25 RX3 yX3_dropAt wsX3_dropAt) := goodIn_app (goodIn_of _ (by decide +kernel)) ggX3_say_X3_dropAt
set_option maxRecDepth 20000 in
theorem ggX3_say_X3_with : GoodIn wsX3_say wsX3_with := goodIn_r _ [16, 11] (by decide +kernel) (by decide +kernel)
set_option maxRecDepth 20000 in
theorem gX3_say_X3_with : GoodIn wsX3_say (va_wsS RX3 36 yX3_with wsX3_with) := goodIn_app (goodIn_of _ (by decide +kernel)) ggX3_say_X3_with
theorem dX3_say_0 : decode cX3_say 0 = .ok (.aload_n 0, 1) := by decide +kernel
theorem dX3_say_1 : decode cX3_say 1 = .ok (.getfield 9, 3) := by decide +kernel
theorem dX3_say_4 : decode cX3_say 4 = .ok (.arraylength, 1) := by decide +kernel
theorem dX3_say_5 : decode cX3_say 5 = .ok (.bipush 48, 2) := by decide +kernel
theorem dX3_say_7 : decode cX3_say 7 = .ok (.if_icmp .ne 8, 3) := by decide +kernel
theorem dX3_say_10 : decode cX3_say 10 = .ok (.aload_n 0, 1) := by decide +kernel
theorem dX3_say_11 : decode cX3_say 11 = .ok (.iconst 0, 1) := by decide +kernel
theorem dX3_say_12 : decode cX3_say 12 = .ok (.invokevirtual 25, 3) := by decide +kernel
theorem dX3_say_15 : decode cX3_say 15 = .ok (.aload_n 0, 1) := by decide +kernel
theorem dX3_say_16 : decode cX3_say 16 = .ok (.aload_n 0, 1) := by decide +kernel
theorem dX3_say_17 : decode cX3_say 17 = .ok (.getfield 9, 3) := by decide +kernel
theorem dX3_say_20 : decode cX3_say 20 = .ok (.iconst 4, 1) := by decide +kernel
theorem dX3_say_21 : decode cX3_say 21 = .ok (.newarray .int, 2) := by decide +kernel
theorem dX3_say_23 : decode cX3_say 23 = .ok (.dup, 1) := by decide +kernel
theorem dX3_say_24 : decode cX3_say 24 = .ok (.iconst 0, 1) := by decide +kernel
theorem dX3_say_25 : decode cX3_say 25 = .ok (.aload_n 0, 1) := by decide +kernel
theorem dX3_say_26 : decode cX3_say 26 = .ok (.getfield 29, 3) := by decide +kernel
theorem dX3_say_29 : decode cX3_say 29 = .ok (.iastore, 1) := by decide +kernel
theorem dX3_say_30 : decode cX3_say 30 = .ok (.dup, 1) := by decide +kernel
theorem dX3_say_31 : decode cX3_say 31 = .ok (.iconst 1, 1) := by decide +kernel
theorem dX3_say_32 : decode cX3_say 32 = .ok (.iload_n 1, 1) := by decide +kernel
theorem dX3_say_33 : decode cX3_say 33 = .ok (.iastore, 1) := by decide +kernel
theorem dX3_say_34 : decode cX3_say 34 = .ok (.dup, 1) := by decide +kernel
theorem dX3_say_35 : decode cX3_say 35 = .ok (.iconst 2, 1) := by decide +kernel
theorem dX3_say_36 : decode cX3_say 36 = .ok (.iload_n 2, 1) := by decide +kernel
theorem dX3_say_37 : decode cX3_say 37 = .ok (.iastore, 1) := by decide +kernel
theorem dX3_say_38 : decode cX3_say 38 = .ok (.dup, 1) := by decide +kernel
theorem dX3_say_39 : decode cX3_say 39 = .ok (.iconst 3, 1) := by decide +kernel
theorem dX3_say_40 : decode cX3_say 40 = .ok (.aload_n 0, 1) := by decide +kernel
theorem dX3_say_41 : decode cX3_say 41 = .ok (.getfield 32, 3) := by decide +kernel
theorem dX3_say_44 : decode cX3_say 44 = .ok (.ifCond .eq 13, 3) := by decide +kernel
theorem dX3_say_47 : decode cX3_say 47 = .ok (.aload_n 0, 1) := by decide +kernel
theorem dX3_say_48 : decode cX3_say 48 = .ok (.getfield 15, 3) := by decide +kernel
theorem dX3_say_51 : decode cX3_say 51 = .ok (.arraylength, 1) := by decide +kernel
theorem dX3_say_52 : decode cX3_say 52 = .ok (.iconst 1, 1) := by decide +kernel
theorem dX3_say_53 : decode cX3_say 53 = .ok (.isub, 1) := by decide +kernel
theorem dX3_say_54 : decode cX3_say 54 = .ok (.goto 4, 3) := by decide +kernel
theorem dX3_say_57 : decode cX3_say 57 = .ok (.iconst (-1), 1) := by decide +kernel
theorem dX3_say_58 : decode cX3_say 58 = .ok (.iastore, 1) := by decide +kernel
theorem dX3_say_59 : decode cX3_say 59 = .ok (.invokestatic 36, 3) := by decide +kernel
theorem dX3_say_62 : decode cX3_say 62 = .ok (.putfield 9, 3) := by decide +kernel
theorem dX3_say_65 : decode cX3_say 65 = .ok (.aload_n 0, 1) := by decide +kernel
theorem dX3_say_66 : decode cX3_say 66 = .ok (.getfield 32, 3) := by decide +kernel
theorem dX3_say_69 : decode cX3_say 69 = .ok (.ifCond .eq 19, 3) := by decide +kernel
theorem dX3_say_72 : decode cX3_say 72 = .ok (.aload_n 0, 1) := by decide +kernel
theorem dX3_say_73 : decode cX3_say 73 = .ok (.getfield 15, 3) := by decide +kernel
theorem dX3_say_76 : decode cX3_say 76 = .ok (.aload_n 0, 1) := by decide +kernel
theorem dX3_say_77 : decode cX3_say 77 = .ok (.getfield 15, 3) := by decide +kernel
theorem dX3_say_80 : decode cX3_say 80 = .ok (.arraylength, 1) := by decide +kernel
theorem dX3_say_81 : decode cX3_say 81 = .ok (.iconst 1, 1) := by decide +kernel
theorem dX3_say_82 : decode cX3_say 82 = .ok (.isub, 1) := by decide +kernel
theorem dX3_say_83 : decode cX3_say 83 = .ok (.dup2, 1) := by decide +kernel
theorem dX3_say_84 : decode cX3_say 84 = .ok (.iaload, 1) := by decide +kernel
theorem dX3_say_85 : decode cX3_say 85 = .ok (.iconst 1, 1) := by decide +kernel
theorem dX3_say_86 : decode cX3_say 86 = .ok (.iadd, 1) := by decide +kernel
theorem dX3_say_87 : decode cX3_say 87 = .ok (.iastore, 1) := by decide +kernel
theorem dX3_say_88 : decode cX3_say 88 = .ok (.aload_n 0, 1) := by decide +kernel
theorem dX3_say_89 : decode cX3_say 89 = .ok (.dup, 1) := by decide +kernel
theorem dX3_say_90 : decode cX3_say 90 = .ok (.getfield 29, 3) := by decide +kernel
theorem dX3_say_93 : decode cX3_say 93 = .ok (.iconst 1, 1) := by decide +kernel
theorem dX3_say_94 : decode cX3_say 94 = .ok (.iadd, 1) := by decide +kernel
theorem dX3_say_95 : decode cX3_say 95 = .ok (.putfield 29, 3) := by decide +kernel
theorem dX3_say_98 : decode cX3_say 98 = .ok (.aload_n 0, 1) := by decide +kernel
theorem dX3_say_99 : decode cX3_say 99 = .ok (.getfield 29, 3) := by decide +kernel
theorem dX3_say_102 : decode cX3_say 102 = .ok (.iconst 1, 1) := by decide +kernel
theorem dX3_say_103 : decode cX3_say 103 = .ok (.isub, 1) := by decide +kernel
theorem dX3_say_104 : decode cX3_say 104 = .ok (.ireturn, 1) := by decide +kernel
set_option maxRecDepth 20000 in
theorem ggX3_compact_X3_dropAt : GoodIn wsX3_compact wsX3_dropAt := goodIn_r _ [7, 1, 8, 2, 9, 10, 11, 12, 13, 14, 15, 16] (by decide +kernel) (by decide +kernel)
set_option maxRecDepth 20000 in
theorem gX3_compact_X3_dropAt : GoodIn wsX3_compact (wsV RX3 25 RX3 yX3_dropAt wsX3_dropAt) := goodIn_app (goodIn_of _ (by decide +kernel)) ggX3_compact_X3_dropAt
theorem dX3_compact_0 : decode cX3_compact 0 = .ok (.aload_n 0, 1) := by decide +kernel
theorem dX3_compact_1 : decode cX3_compact 1 = .ok (.getfield 9, 3) := by decide +kernel
theorem dX3_compact_4 : decode cX3_compact 4 = .ok (.arraylength, 1) := by decide +kernel
theorem dX3_compact_5 : decode cX3_compact 5 = .ok (.istore_n 1, 1) := by decide +kernel
theorem dX3_compact_6 : decode cX3_compact 6 = .ok (.aload_n 0, 1) := by decide +kernel
theorem dX3_compact_7 : decode cX3_compact 7 = .ok (.getfield 9, 3) := by decide +kernel
theorem dX3_compact_10 : decode cX3_compact 10 = .ok (.arraylength, 1) := by decide +kernel
theorem dX3_compact_11 : decode cX3_compact 11 = .ok (.iconst 1, 1) := by decide +kernel
theorem dX3_compact_12 : decode cX3_compact 12 = .ok (.isub, 1) := by decide +kernel
theorem dX3_compact_13 : decode cX3_compact 13 = .ok (.istore_n 2, 1) := by decide +kernel
theorem dX3_compact_14 : decode cX3_compact 14 = .ok (.iload_n 2, 1) := by decide +kernel
theorem dX3_compact_15 : decode cX3_compact 15 = .ok (.ifCond .lt 71, 3) := by decide +kernel
theorem dX3_compact_18 : decode cX3_compact 18 = .ok (.iconst 0, 1) := by decide +kernel
theorem dX3_compact_19 : decode cX3_compact 19 = .ok (.istore_n 3, 1) := by decide +kernel
theorem dX3_compact_20 : decode cX3_compact 20 = .ok (.iload_n 2, 1) := by decide +kernel
theorem dX3_compact_21 : decode cX3_compact 21 = .ok (.iconst 1, 1) := by decide +kernel
theorem dX3_compact_22 : decode cX3_compact 22 = .ok (.iadd, 1) := by decide +kernel
theorem dX3_compact_23 : decode cX3_compact 23 = .ok (.istore 4, 2) := by decide +kernel
theorem dX3_compact_25 : decode cX3_compact 25 = .ok (.iload 4, 2) := by decide +kernel
theorem dX3_compact_27 : decode cX3_compact 27 = .ok (.aload_n 0, 1) := by decide +kernel
theorem dX3_compact_28 : decode cX3_compact 28 = .ok (.getfield 9, 3) := by decide +kernel
theorem dX3_compact_31 : decode cX3_compact 31 = .ok (.arraylength, 1) := by decide +kernel
theorem dX3_compact_32 : decode cX3_compact 32 = .ok (.if_icmp .ge 39, 3) := by decide +kernel
theorem dX3_compact_35 : decode cX3_compact 35 = .ok (.iload_n 3, 1) := by decide +kernel
theorem dX3_compact_36 : decode cX3_compact 36 = .ok (.ifCond .ne 23, 3) := by decide +kernel
theorem dX3_compact_39 : decode cX3_compact 39 = .ok (.aload_n 0, 1) := by decide +kernel
theorem dX3_compact_40 : decode cX3_compact 40 = .ok (.getfield 9, 3) := by decide +kernel
theorem dX3_compact_43 : decode cX3_compact 43 = .ok (.iload 4, 2) := by decide +kernel
theorem dX3_compact_45 : decode cX3_compact 45 = .ok (.aaload, 1) := by decide +kernel
theorem dX3_compact_46 : decode cX3_compact 46 = .ok (.iconst 1, 1) := by decide +kernel
theorem dX3_compact_47 : decode cX3_compact 47 = .ok (.iaload, 1) := by decide +kernel
theorem dX3_compact_48 : decode cX3_compact 48 = .ok (.aload_n 0, 1) := by decide +kernel
theorem dX3_compact_49 : decode cX3_compact 49 = .ok (.getfield 9, 3) := by decide +kernel
theorem dX3_compact_52 : decode cX3_compact 52 = .ok (.iload_n 2, 1) := by decide +kernel
theorem dX3_compact_53 : decode cX3_compact 53 = .ok (.aaload, 1) := by decide +kernel
theorem dX3_compact_54 : decode cX3_compact 54 = .ok (.iconst 1, 1) := by decide +kernel
theorem dX3_compact_55 : decode cX3_compact 55 = .ok (.iaload, 1) := by decide +kernel
theorem dX3_compact_56 : decode cX3_compact 56 = .ok (.if_icmp .ne 7, 3) := by decide +kernel
theorem dX3_compact_59 : decode cX3_compact 59 = .ok (.iconst 1, 1) := by decide +kernel
theorem dX3_compact_60 : decode cX3_compact 60 = .ok (.goto 4, 3) := by decide +kernel
theorem dX3_compact_63 : decode cX3_compact 63 = .ok (.iconst 0, 1) := by decide +kernel
theorem dX3_compact_64 : decode cX3_compact 64 = .ok (.istore_n 3, 1) := by decide +kernel
theorem dX3_compact_65 : decode cX3_compact 65 = .ok (.iinc 4 1, 3) := by decide +kernel
theorem dX3_compact_68 : decode cX3_compact 68 = .ok (.goto (-43), 3) := by decide +kernel
theorem dX3_compact_71 : decode cX3_compact 71 = .ok (.iload_n 3, 1) := by decide +kernel
theorem dX3_compact_72 : decode cX3_compact 72 = .ok (.ifCond .eq 8, 3) := by decide +kernel
theorem dX3_compact_75 : decode cX3_compact 75 = .ok (.aload_n 0, 1) := by decide +kernel
theorem dX3_compact_76 : decode cX3_compact 76 = .ok (.iload_n 2, 1) := by decide +kernel
theorem dX3_compact_77 : decode cX3_compact 77 = .ok (.invokevirtual 25, 3) := by decide +kernel
theorem dX3_compact_80 : decode cX3_compact 80 = .ok (.iinc 2 (-1), 3) := by decide +kernel
theorem dX3_compact_83 : decode cX3_compact 83 = .ok (.goto (-69), 3) := by decide +kernel
theorem dX3_compact_86 : decode cX3_compact 86 = .ok (.aload_n 0, 1) := by decide +kernel
theorem dX3_compact_87 : decode cX3_compact 87 = .ok (.getfield 9, 3) := by decide +kernel
theorem dX3_compact_90 : decode cX3_compact 90 = .ok (.arraylength, 1) := by decide +kernel
theorem dX3_compact_91 : decode cX3_compact 91 = .ok (.iconst 1, 1) := by decide +kernel
theorem dX3_compact_92 : decode cX3_compact 92 = .ok (.isub, 1) := by decide +kernel
theorem dX3_compact_93 : decode cX3_compact 93 = .ok (.istore_n 2, 1) := by decide +kernel
theorem dX3_compact_94 : decode cX3_compact 94 = .ok (.iload_n 2, 1) := by decide +kernel
theorem dX3_compact_95 : decode cX3_compact 95 = .ok (.ifCond .lt 94, 3) := by decide +kernel
theorem dX3_compact_98 : decode cX3_compact 98 = .ok (.aload_n 0, 1) := by decide +kernel
theorem dX3_compact_99 : decode cX3_compact 99 = .ok (.getfield 9, 3) := by decide +kernel
theorem dX3_compact_102 : decode cX3_compact 102 = .ok (.iload_n 2, 1) := by decide +kernel
theorem dX3_compact_103 : decode cX3_compact 103 = .ok (.aaload, 1) := by decide +kernel
theorem dX3_compact_104 : decode cX3_compact 104 = .ok (.iconst 2, 1) := by decide +kernel
theorem dX3_compact_105 : decode cX3_compact 105 = .ok (.iaload, 1) := by decide +kernel
theorem dX3_compact_106 : decode cX3_compact 106 = .ok (.ifCond .ne 7, 3) := by decide +kernel
theorem dX3_compact_109 : decode cX3_compact 109 = .ok (.iconst 1, 1) := by decide +kernel
theorem dX3_compact_110 : decode cX3_compact 110 = .ok (.goto 4, 3) := by decide +kernel
theorem dX3_compact_113 : decode cX3_compact 113 = .ok (.iconst 0, 1) := by decide +kernel
theorem dX3_compact_114 : decode cX3_compact 114 = .ok (.istore_n 3, 1) := by decide +kernel
theorem dX3_compact_115 : decode cX3_compact 115 = .ok (.aload_n 0, 1) := by decide +kernel
theorem dX3_compact_116 : decode cX3_compact 116 = .ok (.getfield 18, 3) := by decide +kernel
theorem dX3_compact_119 : decode cX3_compact 119 = .ok (.astore 4, 2) := by decide +kernel
theorem dX3_compact_121 : decode cX3_compact 121 = .ok (.aload 4, 2) := by decide +kernel
theorem dX3_compact_123 : decode cX3_compact 123 = .ok (.arraylength, 1) := by decide +kernel
theorem dX3_compact_124 : decode cX3_compact 124 = .ok (.istore 5, 2) := by decide +kernel
theorem dX3_compact_126 : decode cX3_compact 126 = .ok (.iconst 0, 1) := by decide +kernel
theorem dX3_compact_127 : decode cX3_compact 127 = .ok (.istore 6, 2) := by decide +kernel
theorem dX3_compact_129 : decode cX3_compact 129 = .ok (.iload 6, 2) := by decide +kernel
theorem dX3_compact_131 : decode cX3_compact 131 = .ok (.iload 5, 2) := by decide +kernel
theorem dX3_compact_133 : decode cX3_compact 133 = .ok (.if_icmp .ge 41, 3) := by decide +kernel
theorem dX3_compact_136 : decode cX3_compact 136 = .ok (.aload 4, 2) := by decide +kernel
theorem dX3_compact_138 : decode cX3_compact 138 = .ok (.iload 6, 2) := by decide +kernel
theorem dX3_compact_140 : decode cX3_compact 140 = .ok (.aaload, 1) := by decide +kernel
theorem dX3_compact_141 : decode cX3_compact 141 = .ok (.astore 7, 2) := by decide +kernel
theorem dX3_compact_143 : decode cX3_compact 143 = .ok (.iload_n 3, 1) := by decide +kernel
theorem dX3_compact_144 : decode cX3_compact 144 = .ok (.ifCond .eq 22, 3) := by decide +kernel
theorem dX3_compact_147 : decode cX3_compact 147 = .ok (.aload_n 0, 1) := by decide +kernel
theorem dX3_compact_148 : decode cX3_compact 148 = .ok (.getfield 9, 3) := by decide +kernel
theorem dX3_compact_151 : decode cX3_compact 151 = .ok (.iload_n 2, 1) := by decide +kernel
theorem dX3_compact_152 : decode cX3_compact 152 = .ok (.aaload, 1) := by decide +kernel
theorem dX3_compact_153 : decode cX3_compact 153 = .ok (.iconst 0, 1) := by decide +kernel
theorem dX3_compact_154 : decode cX3_compact 154 = .ok (.iaload, 1) := by decide +kernel
theorem dX3_compact_155 : decode cX3_compact 155 = .ok (.aload 7, 2) := by decide +kernel
theorem dX3_compact_157 : decode cX3_compact 157 = .ok (.iconst 1, 1) := by decide +kernel
theorem dX3_compact_158 : decode cX3_compact 158 = .ok (.iaload, 1) := by decide +kernel
theorem dX3_compact_159 : decode cX3_compact 159 = .ok (.if_icmp .ge 7, 3) := by decide +kernel
theorem dX3_compact_162 : decode cX3_compact 162 = .ok (.iconst 1, 1) := by decide +kernel
theorem dX3_compact_163 : decode cX3_compact 163 = .ok (.goto 4, 3) := by decide +kernel
theorem dX3_compact_166 : decode cX3_compact 166 = .ok (.iconst 0, 1) := by decide +kernel
theorem dX3_compact_167 : decode cX3_compact 167 = .ok (.istore_n 3, 1) := by decide +kernel
theorem dX3_compact_168 : decode cX3_compact 168 = .ok (.iinc 6 1, 3) := by decide +kernel
theorem dX3_compact_171 : decode cX3_compact 171 = .ok (.goto (-42), 3) := by decide +kernel
theorem dX3_compact_174 : decode cX3_compact 174 = .ok (.iload_n 3, 1) := by decide +kernel
theorem dX3_compact_175 : decode cX3_compact 175 = .ok (.ifCond .eq 8, 3) := by decide +kernel
theorem dX3_compact_178 : decode cX3_compact 178 = .ok (.aload_n 0, 1) := by decide +kernel
theorem dX3_compact_179 : decode cX3_compact 179 = .ok (.iload_n 2, 1) := by decide +kernel
theorem dX3_compact_180 : decode cX3_compact 180 = .ok (.invokevirtual 25, 3) := by decide +kernel
theorem dX3_compact_183 : decode cX3_compact 183 = .ok (.iinc 2 (-1), 3) := by decide +kernel
theorem dX3_compact_186 : decode cX3_compact 186 = .ok (.goto (-92), 3) := by decide +kernel
theorem dX3_compact_189 : decode cX3_compact 189 = .ok (.iload_n 1, 1) := by decide +kernel
theorem dX3_compact_190 : decode cX3_compact 190 = .ok (.aload_n 0, 1) := by decide +kernel
theorem dX3_compact_191 : decode cX3_compact 191 = .ok (.getfield 9, 3) := by decide +kernel
theorem dX3_compact_194 : decode cX3_compact 194 = .ok (.arraylength, 1) := by decide +kernel
theorem dX3_compact_195 : decode cX3_compact 195 = .ok (.isub, 1) := by decide +kernel
theorem dX3_compact_196 : decode cX3_compact 196 = .ok (.ireturn, 1) := by decide +kernel
theorem dX3_pass_0 : decode cX3_pass 0 = .ok (.iconst 0, 1) := by decide +kernel
theorem dX3_pass_1 : decode cX3_pass 1 = .ok (.istore_n 2, 1) := by decide +kernel
theorem dX3_pass_2 : decode cX3_pass 2 = .ok (.iconst 0, 1) := by decide +kernel
theorem dX3_pass_3 : decode cX3_pass 3 = .ok (.istore_n 3, 1) := by decide +kernel
theorem dX3_pass_4 : decode cX3_pass 4 = .ok (.iload_n 3, 1) := by decide +kernel
theorem dX3_pass_5 : decode cX3_pass 5 = .ok (.iload_n 1, 1) := by decide +kernel
theorem dX3_pass_6 : decode cX3_pass 6 = .ok (.if_icmp .ge 159, 3) := by decide +kernel
theorem dX3_pass_9 : decode cX3_pass 9 = .ok (.aload_n 0, 1) := by decide +kernel
theorem dX3_pass_10 : decode cX3_pass 10 = .ok (.dup, 1) := by decide +kernel
theorem dX3_pass_11 : decode cX3_pass 11 = .ok (.getfield 40, 3) := by decide +kernel
theorem dX3_pass_14 : decode cX3_pass 14 = .ok (.iconst 1, 1) := by decide +kernel
theorem dX3_pass_15 : decode cX3_pass 15 = .ok (.iadd, 1) := by decide +kernel
theorem dX3_pass_16 : decode cX3_pass 16 = .ok (.putfield 40, 3) := by decide +kernel
theorem dX3_pass_19 : decode cX3_pass 19 = .ok (.aload_n 0, 1) := by decide +kernel
theorem dX3_pass_20 : decode cX3_pass 20 = .ok (.getfield 32, 3) := by decide +kernel
theorem dX3_pass_23 : decode cX3_pass 23 = .ok (.ifCond .eq 6, 3) := by decide +kernel
theorem dX3_pass_26 : decode cX3_pass 26 = .ok (.goto 133, 3) := by decide +kernel
theorem dX3_pass_29 : decode cX3_pass 29 = .ok (.aload_n 0, 1) := by decide +kernel
theorem dX3_pass_30 : decode cX3_pass 30 = .ok (.getfield 18, 3) := by decide +kernel
theorem dX3_pass_33 : decode cX3_pass 33 = .ok (.astore 4, 2) := by decide +kernel
theorem dX3_pass_35 : decode cX3_pass 35 = .ok (.aload 4, 2) := by decide +kernel
theorem dX3_pass_37 : decode cX3_pass 37 = .ok (.arraylength, 1) := by decide +kernel
theorem dX3_pass_38 : decode cX3_pass 38 = .ok (.istore 5, 2) := by decide +kernel
theorem dX3_pass_40 : decode cX3_pass 40 = .ok (.iconst 0, 1) := by decide +kernel
theorem dX3_pass_41 : decode cX3_pass 41 = .ok (.istore 6, 2) := by decide +kernel
theorem dX3_pass_43 : decode cX3_pass 43 = .ok (.iload 6, 2) := by decide +kernel
theorem dX3_pass_45 : decode cX3_pass 45 = .ok (.iload 5, 2) := by decide +kernel
theorem dX3_pass_47 : decode cX3_pass 47 = .ok (.if_icmp .ge 112, 3) := by decide +kernel
theorem dX3_pass_50 : decode cX3_pass 50 = .ok (.aload 4, 2) := by decide +kernel
theorem dX3_pass_52 : decode cX3_pass 52 = .ok (.iload 6, 2) := by decide +kernel
theorem dX3_pass_54 : decode cX3_pass 54 = .ok (.aaload, 1) := by decide +kernel
theorem dX3_pass_55 : decode cX3_pass 55 = .ok (.astore 7, 2) := by decide +kernel
theorem dX3_pass_57 : decode cX3_pass 57 = .ok (.aload 7, 2) := by decide +kernel
theorem dX3_pass_59 : decode cX3_pass 59 = .ok (.iconst 0, 1) := by decide +kernel
theorem dX3_pass_60 : decode cX3_pass 60 = .ok (.iaload, 1) := by decide +kernel
theorem dX3_pass_61 : decode cX3_pass 61 = .ok (.istore 8, 2) := by decide +kernel
theorem dX3_pass_63 : decode cX3_pass 63 = .ok (.aload_n 0, 1) := by decide +kernel
theorem dX3_pass_64 : decode cX3_pass 64 = .ok (.getfield 9, 3) := by decide +kernel
theorem dX3_pass_67 : decode cX3_pass 67 = .ok (.astore 9, 2) := by decide +kernel
theorem dX3_pass_69 : decode cX3_pass 69 = .ok (.aload 9, 2) := by decide +kernel
theorem dX3_pass_71 : decode cX3_pass 71 = .ok (.arraylength, 1) := by decide +kernel
theorem dX3_pass_72 : decode cX3_pass 72 = .ok (.istore 10, 2) := by decide +kernel
theorem dX3_pass_74 : decode cX3_pass 74 = .ok (.iconst 0, 1) := by decide +kernel
theorem dX3_pass_75 : decode cX3_pass 75 = .ok (.istore 11, 2) := by decide +kernel
theorem dX3_pass_77 : decode cX3_pass 77 = .ok (.iload 11, 2) := by decide +kernel
theorem dX3_pass_79 : decode cX3_pass 79 = .ok (.iload 10, 2) := by decide +kernel
theorem dX3_pass_81 : decode cX3_pass 81 = .ok (.if_icmp .ge 72, 3) := by decide +kernel
theorem dX3_pass_84 : decode cX3_pass 84 = .ok (.aload 9, 2) := by decide +kernel
theorem dX3_pass_86 : decode cX3_pass 86 = .ok (.iload 11, 2) := by decide +kernel
theorem dX3_pass_88 : decode cX3_pass 88 = .ok (.aaload, 1) := by decide +kernel
theorem dX3_pass_89 : decode cX3_pass 89 = .ok (.astore 12, 2) := by decide +kernel
theorem dX3_pass_91 : decode cX3_pass 91 = .ok (.aload 12, 2) := by decide +kernel
theorem dX3_pass_93 : decode cX3_pass 93 = .ok (.iconst 0, 1) := by decide +kernel
theorem dX3_pass_94 : decode cX3_pass 94 = .ok (.iaload, 1) := by decide +kernel
theorem dX3_pass_95 : decode cX3_pass 95 = .ok (.aload 7, 2) := by decide +kernel
theorem dX3_pass_97 : decode cX3_pass 97 = .ok (.iconst 1, 1) := by decide +kernel
theorem dX3_pass_98 : decode cX3_pass 98 = .ok (.iaload, 1) := by decide +kernel
theorem dX3_pass_99 : decode cX3_pass 99 = .ok (.if_icmp .lt 48, 3) := by decide +kernel
theorem dX3_pass_102 : decode cX3_pass 102 = .ok (.iload 8, 2) := by decide +kernel
theorem dX3_pass_104 : decode cX3_pass 104 = .ok (.ifCond .ne 6, 3) := by decide +kernel
theorem dX3_pass_107 : decode cX3_pass 107 = .ok (.goto 40, 3) := by decide +kernel
theorem dX3_pass_110 : decode cX3_pass 110 = .ok (.aload 7, 2) := by decide +kernel
theorem dX3_pass_112 : decode cX3_pass 112 = .ok (.iconst 4, 1) := by decide +kernel
theorem dX3_pass_113 : decode cX3_pass 113 = .ok (.aload 12, 2) := by decide +kernel
theorem dX3_pass_115 : decode cX3_pass 115 = .ok (.iconst 1, 1) := by decide +kernel
theorem dX3_pass_116 : decode cX3_pass 116 = .ok (.iaload, 1) := by decide +kernel
theorem dX3_pass_117 : decode cX3_pass 117 = .ok (.iadd, 1) := by decide +kernel
theorem dX3_pass_118 : decode cX3_pass 118 = .ok (.aload 12, 2) := by decide +kernel
theorem dX3_pass_120 : decode cX3_pass 120 = .ok (.iconst 2, 1) := by decide +kernel
theorem dX3_pass_121 : decode cX3_pass 121 = .ok (.iaload, 1) := by decide +kernel
theorem dX3_pass_122 : decode cX3_pass 122 = .ok (.iastore, 1) := by decide +kernel
theorem dX3_pass_123 : decode cX3_pass 123 = .ok (.aload 7, 2) := by decide +kernel
theorem dX3_pass_125 : decode cX3_pass 125 = .ok (.iconst 1, 1) := by decide +kernel
theorem dX3_pass_126 : decode cX3_pass 126 = .ok (.aload 12, 2) := by decide +kernel
theorem dX3_pass_128 : decode cX3_pass 128 = .ok (.iconst 0, 1) := by decide +kernel
theorem dX3_pass_129 : decode cX3_pass 129 = .ok (.iaload, 1) := by decide +kernel
theorem dX3_pass_130 : decode cX3_pass 130 = .ok (.iconst 1, 1) := by decide +kernel
theorem dX3_pass_131 : decode cX3_pass 131 = .ok (.iadd, 1) := by decide +kernel
theorem dX3_pass_132 : decode cX3_pass 132 = .ok (.iastore, 1) := by decide +kernel
theorem dX3_pass_133 : decode cX3_pass 133 = .ok (.aload 7, 2) := by decide +kernel
theorem dX3_pass_135 : decode cX3_pass 135 = .ok (.iconst 2, 1) := by decide +kernel
theorem dX3_pass_136 : decode cX3_pass 136 = .ok (.dup2, 1) := by decide +kernel
theorem dX3_pass_137 : decode cX3_pass 137 = .ok (.iaload, 1) := by decide +kernel
theorem dX3_pass_138 : decode cX3_pass 138 = .ok (.iconst 1, 1) := by decide +kernel
theorem dX3_pass_139 : decode cX3_pass 139 = .ok (.iadd, 1) := by decide +kernel
theorem dX3_pass_140 : decode cX3_pass 140 = .ok (.iastore, 1) := by decide +kernel
theorem dX3_pass_141 : decode cX3_pass 141 = .ok (.iinc 8 (-1), 3) := by decide +kernel
theorem dX3_pass_144 : decode cX3_pass 144 = .ok (.iinc 2 1, 3) := by decide +kernel
theorem dX3_pass_147 : decode cX3_pass 147 = .ok (.iinc 11 1, 3) := by decide +kernel
theorem dX3_pass_150 : decode cX3_pass 150 = .ok (.goto (-73), 3) := by decide +kernel
theorem dX3_pass_153 : decode cX3_pass 153 = .ok (.iinc 6 1, 3) := by decide +kernel
theorem dX3_pass_156 : decode cX3_pass 156 = .ok (.goto (-113), 3) := by decide +kernel
theorem dX3_pass_159 : decode cX3_pass 159 = .ok (.iinc 3 1, 3) := by decide +kernel
theorem dX3_pass_162 : decode cX3_pass 162 = .ok (.goto (-158), 3) := by decide +kernel
theorem dX3_pass_165 : decode cX3_pass 165 = .ok (.iload_n 2, 1) := by decide +kernel
theorem dX3_pass_166 : decode cX3_pass 166 = .ok (.ireturn, 1) := by decide +kernel
theorem dX3_lag_0 : decode cX3_lag 0 = .ok (.iconst 0, 1) := by decide +kernel
theorem dX3_lag_1 : decode cX3_lag 1 = .ok (.istore_n 2, 1) := by decide +kernel
theorem dX3_lag_2 : decode cX3_lag 2 = .ok (.aload_n 0, 1) := by decide +kernel
theorem dX3_lag_3 : decode cX3_lag 3 = .ok (.getfield 9, 3) := by decide +kernel
theorem dX3_lag_6 : decode cX3_lag 6 = .ok (.astore_n 3, 1) := by decide +kernel
theorem dX3_lag_7 : decode cX3_lag 7 = .ok (.aload_n 3, 1) := by decide +kernel
theorem dX3_lag_8 : decode cX3_lag 8 = .ok (.arraylength, 1) := by decide +kernel
theorem dX3_lag_9 : decode cX3_lag 9 = .ok (.istore 4, 2) := by decide +kernel
theorem dX3_lag_11 : decode cX3_lag 11 = .ok (.iconst 0, 1) := by decide +kernel
theorem dX3_lag_12 : decode cX3_lag 12 = .ok (.istore 5, 2) := by decide +kernel
theorem dX3_lag_14 : decode cX3_lag 14 = .ok (.iload 5, 2) := by decide +kernel
theorem dX3_lag_16 : decode cX3_lag 16 = .ok (.iload 4, 2) := by decide +kernel
theorem dX3_lag_18 : decode cX3_lag 18 = .ok (.if_icmp .ge 28, 3) := by decide +kernel
theorem dX3_lag_21 : decode cX3_lag 21 = .ok (.aload_n 3, 1) := by decide +kernel
theorem dX3_lag_22 : decode cX3_lag 22 = .ok (.iload 5, 2) := by decide +kernel
theorem dX3_lag_24 : decode cX3_lag 24 = .ok (.aaload, 1) := by decide +kernel
theorem dX3_lag_25 : decode cX3_lag 25 = .ok (.astore 6, 2) := by decide +kernel
theorem dX3_lag_27 : decode cX3_lag 27 = .ok (.aload 6, 2) := by decide +kernel
theorem dX3_lag_29 : decode cX3_lag 29 = .ok (.iconst 0, 1) := by decide +kernel
theorem dX3_lag_30 : decode cX3_lag 30 = .ok (.iaload, 1) := by decide +kernel
theorem dX3_lag_31 : decode cX3_lag 31 = .ok (.aload_n 1, 1) := by decide +kernel
theorem dX3_lag_32 : decode cX3_lag 32 = .ok (.iconst 1, 1) := by decide +kernel
theorem dX3_lag_33 : decode cX3_lag 33 = .ok (.iaload, 1) := by decide +kernel
theorem dX3_lag_34 : decode cX3_lag 34 = .ok (.if_icmp .lt 6, 3) := by decide +kernel
theorem dX3_lag_37 : decode cX3_lag 37 = .ok (.iinc 2 1, 3) := by decide +kernel
theorem dX3_lag_40 : decode cX3_lag 40 = .ok (.iinc 5 1, 3) := by decide +kernel
theorem dX3_lag_43 : decode cX3_lag 43 = .ok (.goto (-29), 3) := by decide +kernel
theorem dX3_lag_46 : decode cX3_lag 46 = .ok (.iload_n 2, 1) := by decide +kernel
theorem dX3_lag_47 : decode cX3_lag 47 = .ok (.ireturn, 1) := by decide +kernel
theorem dX3_value_0 : decode cX3_value 0 = .ok (.iconst 0, 1) := by decide +kernel
theorem dX3_value_1 : decode cX3_value 1 = .ok (.istore_n 2, 1) := by decide +kernel
theorem dX3_value_2 : decode cX3_value 2 = .ok (.aload_n 0, 1) := by decide +kernel
theorem dX3_value_3 : decode cX3_value 3 = .ok (.getfield 9, 3) := by decide +kernel
theorem dX3_value_6 : decode cX3_value 6 = .ok (.astore_n 3, 1) := by decide +kernel
theorem dX3_value_7 : decode cX3_value 7 = .ok (.aload_n 3, 1) := by decide +kernel
theorem dX3_value_8 : decode cX3_value 8 = .ok (.arraylength, 1) := by decide +kernel
theorem dX3_value_9 : decode cX3_value 9 = .ok (.istore 4, 2) := by decide +kernel
theorem dX3_value_11 : decode cX3_value 11 = .ok (.iconst 0, 1) := by decide +kernel
theorem dX3_value_12 : decode cX3_value 12 = .ok (.istore 5, 2) := by decide +kernel
theorem dX3_value_14 : decode cX3_value 14 = .ok (.iload 5, 2) := by decide +kernel
theorem dX3_value_16 : decode cX3_value 16 = .ok (.iload 4, 2) := by decide +kernel
theorem dX3_value_18 : decode cX3_value 18 = .ok (.if_icmp .ge 28, 3) := by decide +kernel
theorem dX3_value_21 : decode cX3_value 21 = .ok (.aload_n 3, 1) := by decide +kernel
theorem dX3_value_22 : decode cX3_value 22 = .ok (.iload 5, 2) := by decide +kernel
theorem dX3_value_24 : decode cX3_value 24 = .ok (.aaload, 1) := by decide +kernel
theorem dX3_value_25 : decode cX3_value 25 = .ok (.astore 6, 2) := by decide +kernel
theorem dX3_value_27 : decode cX3_value 27 = .ok (.aload 6, 2) := by decide +kernel
theorem dX3_value_29 : decode cX3_value 29 = .ok (.iconst 1, 1) := by decide +kernel
theorem dX3_value_30 : decode cX3_value 30 = .ok (.iaload, 1) := by decide +kernel
theorem dX3_value_31 : decode cX3_value 31 = .ok (.iload_n 1, 1) := by decide +kernel
theorem dX3_value_32 : decode cX3_value 32 = .ok (.if_icmp .ne 8, 3) := by decide +kernel
theorem dX3_value_35 : decode cX3_value 35 = .ok (.aload 6, 2) := by decide +kernel
theorem dX3_value_37 : decode cX3_value 37 = .ok (.iconst 2, 1) := by decide +kernel
theorem dX3_value_38 : decode cX3_value 38 = .ok (.iaload, 1) := by decide +kernel
theorem dX3_value_39 : decode cX3_value 39 = .ok (.istore_n 2, 1) := by decide +kernel
theorem dX3_value_40 : decode cX3_value 40 = .ok (.iinc 5 1, 3) := by decide +kernel
theorem dX3_value_43 : decode cX3_value 43 = .ok (.goto (-29), 3) := by decide +kernel
theorem dX3_value_46 : decode cX3_value 46 = .ok (.iload_n 2, 1) := by decide +kernel
theorem dX3_value_47 : decode cX3_value 47 = .ok (.ireturn, 1) := by decide +kernel
set_option maxRecDepth 20000 in
theorem ggX3_errors_X3_value : GoodIn wsX3_errors wsX3_value := goodIn_r _ [5, 6, 7, 8, 9, 10, 11, 12, 13] (by decide +kernel) (by decide +kernel)
set_option maxRecDepth 20000 in
theorem gX3_errors_X3_value : GoodIn wsX3_errors (wsV RX3 43 RX3 yX3_value wsX3_value) := goodIn_app (goodIn_of _ (by decide +kernel)) ggX3_errors_X3_value
theorem dX3_errors_0 : decode cX3_errors 0 = .ok (.iconst 0, 1) := by decide +kernel
theorem dX3_errors_1 : decode cX3_errors 1 = .ok (.istore_n 2, 1) := by decide +kernel
theorem dX3_errors_2 : decode cX3_errors 2 = .ok (.iconst 0, 1) := by decide +kernel
theorem dX3_errors_3 : decode cX3_errors 3 = .ok (.istore_n 3, 1) := by decide +kernel
theorem dX3_errors_4 : decode cX3_errors 4 = .ok (.iload_n 3, 1) := by decide +kernel
theorem dX3_errors_5 : decode cX3_errors 5 = .ok (.bipush 10, 2) := by decide +kernel
theorem dX3_errors_7 : decode cX3_errors 7 = .ok (.if_icmp .ge 25, 3) := by decide +kernel
theorem dX3_errors_10 : decode cX3_errors 10 = .ok (.aload_n 1, 1) := by decide +kernel
theorem dX3_errors_11 : decode cX3_errors 11 = .ok (.iconst 4, 1) := by decide +kernel
theorem dX3_errors_12 : decode cX3_errors 12 = .ok (.iload_n 3, 1) := by decide +kernel
theorem dX3_errors_13 : decode cX3_errors 13 = .ok (.iadd, 1) := by decide +kernel
theorem dX3_errors_14 : decode cX3_errors 14 = .ok (.iaload, 1) := by decide +kernel
theorem dX3_errors_15 : decode cX3_errors 15 = .ok (.aload_n 0, 1) := by decide +kernel
theorem dX3_errors_16 : decode cX3_errors 16 = .ok (.iload_n 3, 1) := by decide +kernel
theorem dX3_errors_17 : decode cX3_errors 17 = .ok (.invokevirtual 43, 3) := by decide +kernel
theorem dX3_errors_20 : decode cX3_errors 20 = .ok (.if_icmp .eq 6, 3) := by decide +kernel
theorem dX3_errors_23 : decode cX3_errors 23 = .ok (.iinc 2 1, 3) := by decide +kernel
theorem dX3_errors_26 : decode cX3_errors 26 = .ok (.iinc 3 1, 3) := by decide +kernel
theorem dX3_errors_29 : decode cX3_errors 29 = .ok (.goto (-25), 3) := by decide +kernel
theorem dX3_errors_32 : decode cX3_errors 32 = .ok (.iload_n 2, 1) := by decide +kernel
theorem dX3_errors_33 : decode cX3_errors 33 = .ok (.ireturn, 1) := by decide +kernel
end
section
section GF
/-- the class numbers; the array classes of int, boolean, Ship, int[]; where the texts lie -/
abbrev gE : Type := va_G × ClassId × ClassId × ClassId × ClassId × (Nat → Nat)
abbrev eI (E : gE) : ClassId := E.2.1
abbrev eZ (E : gE) : ClassId := E.2.2.1
abbrev eO (E : gE) : ClassId := E.2.2.2.1
abbrev eL (E : gE) : ClassId := E.2.2.2.2.1
abbrev eS (E : gE) : Nat → Nat := E.2.2.2.2.2
abbrev eTy (E : gE) : List (ClassId × FieldType) := [(eI E, .int), (eZ E, .boolean), (eO E, .object RX1), (eL E, .array .int)]
def eNw : List Cond := [.fieldLinkNest RX2 118 RX0 "size" "I" RX2, .fieldLinkNest RX2 121 RX0 "next" "I" RX2, .fieldLinkNest RX2 124 RX0 "offsets" "[I" RX2, .fieldLinkNest RX2 127 RX0 "droppedInAll" "I" RX2,
  .fieldLinkNest RX2 134 RX0 "keys" "[I" RX2, .fieldLinkNest RX2 140 RX0 "values" "[I" RX2, .fieldLinkNest RX2 143 RX0 "stormNumbers" "[I" RX2, .fieldLinkNest RX2 165 RX1 "heard" "I" RX2,
  .fieldLinkNest RX2 168 RX1 "missed" "I" RX2, .fieldLinkNest RX2 171 RX1 "known" "[I" RX2, .fieldLinkNest RX2 95 RX1 "pace" "I" RX2, .fieldLinkNest RX2 98 RX1 "offset" "I" RX2,
  .methodLinkNest RX2 9 yX0_init RX2, .methodLinkNest RX2 26 yX1_init RX2, .methodLinkNest RX2 71 yX0_copyStorm RX2, .methodLinkNest RX2 85 yX0_markAhead RX2, .methodLinkNest RX2 130 yX0_positionOf RX2,
  .methodLinkNest RX2 149 yX0_latestOffset RX2, .methodLinkNest RX2 152 yX0_latestValue RX2, .methodLinkNest RX2 155 yX0_countKey RX2, .methodLinkNest RX2 158 yX0_countStorm RX2, .methodLinkNest RX2 180 yX0_countMarked RX2,
  .methodLinkNest RX2 183 yX0_countMarkedFrom RX2, .methodLinkNest RX2 213 yX0_markFirst RX2, .methodLinkNest RX2 216 yX0_append RX2, .methodLinkNest RX2 223 yX0_markCompacted RX2, .methodLinkNest RX2 230 yX0_removeMarked RX2,
  .methodLinkNest RX2 233 yX0_positionFrom RX2, .methodLinkNest RX2 236 yX1_hear RX2, .methodLinkNest RX2 240 yX0_latestPosition RX2,
  .castable "java/lang/IllegalArgumentException" "java/lang/IllegalArgumentException", .castable "java/lang/IllegalStateException" "java/lang/IllegalStateException", .castable "java/lang/IndexOutOfBoundsException" "java/lang/IndexOutOfBoundsException",
  .declares (Bundle.initS "java/lang/RuntimeException"), .declares (Bundle.initS "java/lang/Exception"), .declares (Bundle.initS Bundle.tN)]
def eStr : List (Nat × String) := [(246, "hours is not 1 to 60"), (248, "offset is not 0 to the next one"), (250, "there is no such storm"), (252, "there is no such ship"), (254, "no phrase with this offset is kept"), (39, "key is not 0 to 9"), (44, "value is not -999 to 999"), (56, "a storm is on"), (63, "there were 8 storms"), (65, "no storm is on"), (88, "pace is not 1 to 5"), (93, "there are 6 ships")]
def eNk : Cond → Bool
  | .fieldLinkNest .. => true
  | .methodLinkNest .. => true
  | .castable .. => true
  | .declares .. => true
  | _ => false
theorem eNk_warm {w : Cond} (hk : eNk w = true) {s U : State} (hW : s.WarmedH U.vm) (h : va_Nw w s) : va_Nw w U := by
  cases w <;> first | exact va_Nw.warmF hW h | exact va_Nw.warmM hW h | exact va_Nw.warmD hW h | exact va_Nw.warmC hW h | exact absurd hk (by simp [eNk])
theorem eNk_all : ∀ w ∈ eNw, eNk w = true := by decide +kernel
theorem asg_self {vm : Vm} {c : ClassId} : vm.assignable c c = true := by
  show vm.assignableAux (255 + 1) c c = true
  unfold Vm.assignableAux
  simp only [beq_self_eq_true, Bool.true_or]
/-- the rows of rows: the class of int[][] stands over int[] -/
def va_A2 (U : State) : Prop := (Cond.arrayOver (.array .int)).before #[] U = true
theorem va_A2.moved {u U : State} (hvm : u.vm.Alike U.vm) (h : va_A2 u) : va_A2 U := by
  obtain ⟨comp, c, k, h1, h2, h3, h4, h5⟩ := arrayOverA_spec h
  obtain ⟨k', hk', he⟩ := hvm.2.2 _ _ h3
  have hkind : k'.kind = .array comp (.array .int) := by rw [he]; exact h4
  have f1 : U.vm.findClass (FieldType.array .int).toString = some comp := by rw [hvm.findClass]; exact h1
  have f2 : U.vm.findClass ("[" ++ (FieldType.array .int).toString) = some c := by rw [hvm.findClass]; exact h5
  unfold va_A2
  simp only [Cond.before, Cond.holds, Cond.value, f1, Option.bind_some, beq_iff_eq]
  rw [Option.bind_eq_some_iff]
  refine ⟨c, (hvm.findIdx?_eq _ (fun _ => rfl)).trans h2, ?_⟩
  simp [hk', hkind, f2]
/-- what the tables say, for every method alike -/
def eOk (E : gE) (U : State) : Prop := va_K E.1 vwCl (eTy E) U ∧ (∀ w ∈ eNw, va_Nw w U) ∧ (∀ q ∈ eStr, vk_R RX2 q.1 q.2 (eS E q.1) U) ∧ va_A2 U
theorem eOk.warm {E : gE} {s U : State} (hW : s.WarmedH U.vm) (h : eOk E s) : eOk E U :=
  ⟨va_K.moved hW.alike h.1, fun w hw => eNk_warm (eNk_all w hw) hW (h.2.1 w hw), fun q hq => vk_R.warm hW (h.2.2.1 q hq), va_A2.moved hW.alike h.2.2.2⟩
/-- the two statics of Throwable that a throw reads, in no cell of A -/
def gZ (A : Nat → Prop) (U : State) (H : Heap) : Prop := vx_Zq Bundle.tN "UNASSIGNED_STACK" Bundle.steD A U H ∧ vx_Zq Bundle.tN "SUPPRESSED_SENTINEL" Bundle.listD A U H
theorem gZ.moved {A : Nat → Prop} {u U : State} {H : Heap} (hvm : u.vm.Alike U.vm) (h : gZ A u H) : gZ A U H := ⟨vx_Zq.moved hvm h.1, vx_Zq.moved hvm h.2⟩
theorem gZ.narrow {A B : Nat → Prop} {U : State} {H : Heap} (h : gZ A U H) (hAB : ∀ q, B q → A q) : gZ B U H := ⟨vx_Zq.narrow h.1 hAB, vx_Zq.narrow h.2 hAB⟩
theorem gZ.kept {A : Nat → Prop} {U : State} {H H1 : Heap} (h : gZ A U H) (hq : ∀ a : Nat, a < H.size → ¬ A a → H1[a]? = H[a]?) : gZ A U H1 := ⟨vx_Zq.kept h.1 hq, vx_Zq.kept h.2 hq⟩
/-- the world ws lies in H, apart, in cells of A; nothing else of the start has changed -/
def gO (E : gE) (A : Nat → Prop) (s : State) (ws : va_W) (H : Heap) (locs : List Loc) : Prop := va_P E.1 vwCl ws H ∧ va_D A ws ∧ va_S A s.heap H locs
/-- a method's start -/
abbrev gP (E : gE) (ws : va_W) (sz : Nat) (av : List Value) : Array Value → State → Prop := va_Pc av (fun U => U.heap.size = sz ∧ va_P E.1 vwCl ws U.heap ∧ eOk E U ∧ va_D (fun _ => True) ws ∧ gZ (va_A ws sz) U U.heap)
theorem gP_blind {E : gE} {ws : va_W} {sz : Nat} {av : List Value} : FrameBlind (gP E ws sz av) := fun a U g mk h => ⟨h.1, h.2.1, h.2.2.1, eOk.warm (s := U) (U := U.calling g mk a) (State.WarmedH.refl U) h.2.2.2.1, h.2.2.2.2.1, gZ.moved (u := U) (U := U.calling g mk a) (Vm.Alike.refl U.vm) h.2.2.2.2.2⟩
abbrev gB (E : gE) (A : Nat → Prop) (ws' : va_W) : State → Prop := fun t => va_P E.1 vwCl ws' t.heap ∧ va_D A ws'
abbrev gQi (E : gE) (A : Nat → Prop) (r : Int32) (ws' : va_W) : Array Value → State → Outcome → State → Prop := va_Qi (S := Unit) (fun x _ => x = r) (fun _ => gB E A ws') A
abbrev gQl (E : gE) (A : Nat → Prop) (r : Int64) (ws' : va_W) : Array Value → State → Outcome → State → Prop := va_Ql (S := Unit) (fun x _ => x = r) (fun _ => gB E A ws') A
abbrev gQd (E : gE) (A : Nat → Prop) (r : UInt64) (ws' : va_W) : Array Value → State → Outcome → State → Prop := va_Qd (S := Unit) (fun x _ => x = r) (fun _ => gB E A ws') A
abbrev gQv (E : gE) (A : Nat → Prop) (ws' : va_W) : Array Value → State → Outcome → State → Prop := va_Qv (S := Unit) (fun _ => True) (fun _ => gB E A ws') A
/-- y, called with av over the world ws, returns r over the world ws' -/
def gMi (l : Launch) (E : gE) (y : MethodName) (wl : List Cond) (rm : Room) (ws : va_W) (av : List Value) (r : Int32) (ws' : va_W) (mc ms : Nat) : Prop := ∀ sz : Nat, Met l y wl rm (gP E ws sz av) (gQi E (va_A ws sz) r ws') mc ms (va_A ws sz)
def gMl (l : Launch) (E : gE) (y : MethodName) (wl : List Cond) (rm : Room) (ws : va_W) (av : List Value) (r : Int64) (ws' : va_W) (mc ms : Nat) : Prop := ∀ sz : Nat, Met l y wl rm (gP E ws sz av) (gQl E (va_A ws sz) r ws') mc ms (va_A ws sz)
def gMd (l : Launch) (E : gE) (y : MethodName) (wl : List Cond) (rm : Room) (ws : va_W) (av : List Value) (r : UInt64) (ws' : va_W) (mc ms : Nat) : Prop := ∀ sz : Nat, Met l y wl rm (gP E ws sz av) (gQd E (va_A ws sz) r ws') mc ms (va_A ws sz)
def gMv (l : Launch) (E : gE) (y : MethodName) (wl : List Cond) (rm : Room) (ws : va_W) (av : List Value) (ws' : va_W) (mc ms : Nat) : Prop := ∀ sz : Nat, Met l y wl rm (gP E ws sz av) (gQv E (va_A ws sz) ws') mc ms (va_A ws sz)
/-- .. or throws, in which case the world is as it was: 'ok' when it returns, 'bad E' when it throws E -/
abbrev gXC (E : gE) (A : Nat → Prop) (bad : String → Prop) (ws : va_W) : String → State → State → Prop := vx_X (S := Unit) (fun _ => True) (fun En _ t => bad En ∧ gB E A ws t) A
abbrev gXQi (E : gE) (A : Nat → Prop) (ok : Prop) (r : Int32) (ws' : va_W) : Array Value → State → Outcome → State → Prop := va_Qi (S := Unit) (fun x _ => ok ∧ x = r) (fun _ => gB E A ws') A
abbrev gXQv (E : gE) (A : Nat → Prop) (ok : Prop) (ws' : va_W) : Array Value → State → Outcome → State → Prop := va_Qv (S := Unit) (fun _ => ok) (fun _ => gB E A ws') A
def gXi (l : Launch) (E : gE) (y : MethodName) (wl : List Cond) (rm : Room) (ws : va_W) (av : List Value) (ok : Prop) (r : Int32) (ws' : va_W) (bad : String → Prop) (mc ms : Nat) : Prop := ∀ sz : Nat, vx_Met l y wl rm (gP E ws sz av) (gXQi E (va_A ws sz) ok r ws') (gXC E (va_A ws sz) bad ws) mc ms (va_A ws sz)
def gXv (l : Launch) (E : gE) (y : MethodName) (wl : List Cond) (rm : Room) (ws : va_W) (av : List Value) (ok : Prop) (ws' : va_W) (bad : String → Prop) (mc ms : Nat) : Prop := ∀ sz : Nat, vx_Met l y wl rm (gP E ws sz av) (gXQv E (va_A ws sz) ok ws') (gXC E (va_A ws sz) bad ws) mc ms (va_A ws sz)
end GF
section GC
variable {p : Program} {l : Launch} {e : Env} {R : Room} {s : State} {m : MethodId} {args : Array Value} {below : List Frame} {meth : Method} {c : Code} {H : Heap} {locs : List Loc} {cells slots : Nat} {Q : State → Prop}
variable {E : gE} {A : Nat → Prop} {ws ws' : va_W} {y : MethodName} {wl wl' : List Cond} {rm : Room} {av : List Value} {mc ms : Nat} {cc bytes : ByteArray} {maxL nL : Nat} {ret : Option FieldType} {Ts : List Cond} {own : String}
/-- what a method's walk has at hand -/
def gCx (p : Program) (s : State) (m : MethodId) (args : Array Value) (meth : Method) (c : Code) (cc : ByteArray) (nL : Nat) (Ts : List Cond) (own : String) (ret : Option FieldType) (E : gE) (A : Nat → Prop) : Prop :=
  p.tables.exec = Jvm.exec ∧ c.code = cc ∧ c.maxLocals = nL ∧ s.vm.findClass own = some m.cls ∧ (∀ w ∈ Ts, w.before args s = true) ∧ meth.sig.returnType = ret ∧ meth.locks = false ∧ eOk E s ∧ (∀ q, s.heap.size ≤ q → A q) ∧ gZ A s s.heap
theorem gCx.fix (C : gCx p s m args meth c cc nL Ts own ret E A) : CallFix p m c cc nL s args Ts own := ⟨C.1, C.2.1, C.2.2.1, C.2.2.2.1, C.2.2.2.2.1⟩
theorem gO.free (hA : ∀ q, s.heap.size ≤ q → A q) (hO : gO E A s ws H locs) : ∀ q, va_A ws H.size q → A q := by
  intro q h
  rcases h with ⟨k, e, h⟩ | h
  · exact hO.2.1.2 k (q, e) h
  · exact hA q (Nat.le_trans hO.2.2.1 h)
theorem gMi.of {ty : FieldType} {r : Int32} (hy : plainName y.cls = true) (hw : wl = Cond.code y cc maxL (some ty) :: wl') (hlen : (lg_sl av).length ≤ maxL)
    (body : ∀ p e s m args below meth c A, gCx p s m args meth c cc maxL wl y.cls (some ty) E A → ∀ ls : Array Slot, lv_has ls maxL (lv_args 0 av) → gO E A s ws s.heap [] → W p l e rm s m args below meth c s.heap [] 0 0 (MQ below (gQi E A r ws') args s mc ms A) (F0 m 0 ls [])) : gMi l E y wl rm ws av r ws' mc ms := by
  intro sz
  refine Met.ofW (cc := cc) (maxL := maxL) (ret := some ty) hy hw ?_
  intro p e s m args below meth c s₁ B hml hv
  obtain ⟨rfl, hsz, hP, eo, hD0, hZ⟩ := hv
  have hts := atoms_spec (ws := wl) B.pre
  have hown : s.vm.findClass y.cls = some m.cls := findClass_of_methodNamed B.named
  subst hsz
  have hl := lv_entry av (n := maxL) hlen
  rw [lg_entry_eq]
  exact body p e s m av.toArray below meth c (va_A ws s.heap.size) ⟨B.exec, B.bytes, hml, hown, hts, B.returns, B.notSynchronized, eo, fun q h => Or.inr h, hZ⟩ _ hl ⟨hP, hD0.self (sz := s.heap.size), va_S.rf⟩
theorem gMv.of (hy : plainName y.cls = true) (hw : wl = Cond.code y cc maxL none :: wl') (hlen : (lg_sl av).length ≤ maxL)
    (body : ∀ p e s m args below meth c A, gCx p s m args meth c cc maxL wl y.cls none E A → ∀ ls : Array Slot, lv_has ls maxL (lv_args 0 av) → gO E A s ws s.heap [] → W p l e rm s m args below meth c s.heap [] 0 0 (MQ below (gQv E A ws') args s mc ms A) (F0 m 0 ls [])) : gMv l E y wl rm ws av ws' mc ms := by
  intro sz
  refine Met.ofW (cc := cc) (maxL := maxL) (ret := none) hy hw ?_
  intro p e s m args below meth c s₁ B hml hv
  obtain ⟨rfl, hsz, hP, eo, hD0, hZ⟩ := hv
  have hts := atoms_spec (ws := wl) B.pre
  have hown : s.vm.findClass y.cls = some m.cls := findClass_of_methodNamed B.named
  subst hsz
  have hl := lv_entry av (n := maxL) hlen
  rw [lg_entry_eq]
  exact body p e s m av.toArray below meth c (va_A ws s.heap.size) ⟨B.exec, B.bytes, hml, hown, hts, B.returns, B.notSynchronized, eo, fun q h => Or.inr h, hZ⟩ _ hl ⟨hP, hD0.self (sz := s.heap.size), va_S.rf⟩
theorem gMl.of {r : Int64} (hy : plainName y.cls = true) (hw : wl = Cond.code y cc maxL (some .long) :: wl') (hlen : (lg_sl av).length ≤ maxL)
    (body : ∀ p e s m args below meth c A, gCx p s m args meth c cc maxL wl y.cls (some .long) E A → ∀ ls : Array Slot, lv_has ls maxL (lv_args 0 av) → gO E A s ws s.heap [] → W p l e rm s m args below meth c s.heap [] 0 0 (MQ below (gQl E A r ws') args s mc ms A) (F0 m 0 ls [])) : gMl l E y wl rm ws av r ws' mc ms := by
  intro sz
  refine Met.ofW (cc := cc) (maxL := maxL) (ret := some .long) hy hw ?_
  intro p e s m args below meth c s₁ B hml hv
  obtain ⟨rfl, hsz, hP, eo, hD0, hZ⟩ := hv
  have hts := atoms_spec (ws := wl) B.pre
  have hown : s.vm.findClass y.cls = some m.cls := findClass_of_methodNamed B.named
  subst hsz
  have hl := lv_entry av (n := maxL) hlen
  rw [lg_entry_eq]
  exact body p e s m av.toArray below meth c (va_A ws s.heap.size) ⟨B.exec, B.bytes, hml, hown, hts, B.returns, B.notSynchronized, eo, fun q h => Or.inr h, hZ⟩ _ hl ⟨hP, hD0.self (sz := s.heap.size), va_S.rf⟩
theorem gMd.of {r : UInt64} (hy : plainName y.cls = true) (hw : wl = Cond.code y cc maxL (some .double) :: wl') (hlen : (lg_sl av).length ≤ maxL)
    (body : ∀ p e s m args below meth c A, gCx p s m args meth c cc maxL wl y.cls (some .double) E A → ∀ ls : Array Slot, lv_has ls maxL (lv_args 0 av) → gO E A s ws s.heap [] → W p l e rm s m args below meth c s.heap [] 0 0 (MQ below (gQd E A r ws') args s mc ms A) (F0 m 0 ls [])) : gMd l E y wl rm ws av r ws' mc ms := by
  intro sz
  refine Met.ofW (cc := cc) (maxL := maxL) (ret := some .double) hy hw ?_
  intro p e s m args below meth c s₁ B hml hv
  obtain ⟨rfl, hsz, hP, eo, hD0, hZ⟩ := hv
  have hts := atoms_spec (ws := wl) B.pre
  have hown : s.vm.findClass y.cls = some m.cls := findClass_of_methodNamed B.named
  subst hsz
  have hl := lv_entry av (n := maxL) hlen
  rw [lg_entry_eq]
  exact body p e s m av.toArray below meth c (va_A ws s.heap.size) ⟨B.exec, B.bytes, hml, hown, hts, B.returns, B.notSynchronized, eo, fun q h => Or.inr h, hZ⟩ _ hl ⟨hP, hD0.self (sz := s.heap.size), va_S.rf⟩
theorem gXi.of {ty : FieldType} {ok : Prop} {r : Int32} {bad : String → Prop} (hy : plainName y.cls = true) (hw : wl = Cond.code y cc maxL (some ty) :: wl') (hlen : (lg_sl av).length ≤ maxL)
    (body : ∀ p e s m args below meth c A, gCx p s m args meth c cc maxL wl y.cls (some ty) E A → (∀ x ∈ c.exceptionTable.toList, False) → ∀ ls : Array Slot, lv_has ls maxL (lv_args 0 av) → gO E A s ws s.heap [] → W p l e rm s m args below meth c s.heap [] 0 0 (vx_MQ below (gXQi E A ok r ws') (gXC E A bad ws) args s mc ms A) (F0 m 0 ls [])) : gXi l E y wl rm ws av ok r ws' bad mc ms := by
  intro sz
  refine vx_ofW (cc := cc) (maxL := maxL) (ret := some ty) hy hw ?_
  intro p e s m args below meth c s₁ B hml ht hv
  obtain ⟨rfl, hsz, hP, eo, hD0, hZ⟩ := hv
  have hts := atoms_spec (ws := wl) B.pre
  have hown : s.vm.findClass y.cls = some m.cls := findClass_of_methodNamed B.named
  subst hsz
  have hl := lv_entry av (n := maxL) hlen
  rw [lg_entry_eq]
  exact body p e s m av.toArray below meth c (va_A ws s.heap.size) ⟨B.exec, B.bytes, hml, hown, hts, B.returns, B.notSynchronized, eo, fun q h => Or.inr h, hZ⟩ ht _ hl ⟨hP, hD0.self (sz := s.heap.size), va_S.rf⟩
theorem gXv.of {ok : Prop} {bad : String → Prop} (hy : plainName y.cls = true) (hw : wl = Cond.code y cc maxL none :: wl') (hlen : (lg_sl av).length ≤ maxL)
    (body : ∀ p e s m args below meth c A, gCx p s m args meth c cc maxL wl y.cls none E A → (∀ x ∈ c.exceptionTable.toList, False) → ∀ ls : Array Slot, lv_has ls maxL (lv_args 0 av) → gO E A s ws s.heap [] → W p l e rm s m args below meth c s.heap [] 0 0 (vx_MQ below (gXQv E A ok ws') (gXC E A bad ws) args s mc ms A) (F0 m 0 ls [])) : gXv l E y wl rm ws av ok ws' bad mc ms := by
  intro sz
  refine vx_ofW (cc := cc) (maxL := maxL) (ret := none) hy hw ?_
  intro p e s m args below meth c s₁ B hml ht hv
  obtain ⟨rfl, hsz, hP, eo, hD0, hZ⟩ := hv
  have hts := atoms_spec (ws := wl) B.pre
  have hown : s.vm.findClass y.cls = some m.cls := findClass_of_methodNamed B.named
  subst hsz
  have hl := lv_entry av (n := maxL) hlen
  rw [lg_entry_eq]
  exact body p e s m av.toArray below meth c (va_A ws s.heap.size) ⟨B.exec, B.bytes, hml, hown, hts, B.returns, B.notSynchronized, eo, fun q h => Or.inr h, hZ⟩ ht _ hl ⟨hP, hD0.self (sz := s.heap.size), va_S.rf⟩
-- ENDS
variable {pc : Nat} {ls : Array Slot} {rest : List Value}
theorem gRi {ty : FieldType} {v r : Int32} (C : gCx p s m args meth c cc nL Ts own (some ty) E A) (hO : gO E A s ws' H locs) (hn : narrow ty (.int v) = .int v) (hv : v = r) (hdg : decode cc pc = .ok (.ireturn, 1)) (h1 : cells ≤ mc) (h2 : slots ≤ ms) : W p l e R s m args below meth c H locs cells slots (MQ below (gQi E A r ws') args s mc ms A) (F0 m pc ls [.int v]) := by
  refine W.widen h1 h2 ?_
  exact W.zret C.1 C.2.1 C.2.2.2.2.2.1 hn (fun t ht hW => ⟨⟨v, (), rfl, hv, by rw [ht]; exact hO.1, hO.2.1⟩, hO.2.2.F ht⟩) hO.2.2.2.2 hdg C.2.2.2.2.2.2.1
theorem gRv (C : gCx p s m args meth c cc nL Ts own none E A) (hO : gO E A s ws' H locs) (hdg : decode cc pc = .ok (.return_, 1)) (h1 : cells ≤ mc) (h2 : slots ≤ ms) : W p l e R s m args below meth c H locs cells slots (MQ below (gQv E A ws') args s mc ms A) (F0 m pc ls []) := by
  refine W.widen h1 h2 ?_
  exact W.vret C.1 C.2.1 C.2.2.2.2.2.1 (fun t ht hW => ⟨⟨(), rfl, trivial, by rw [ht]; exact hO.1, hO.2.1⟩, hO.2.2.F ht⟩) hO.2.2.2.2 hdg C.2.2.2.2.2.2.1
theorem gRl {v r : Int64} (C : gCx p s m args meth c cc nL Ts own (some .long) E A) (hO : gO E A s ws' H locs) (hv : v = r) (hdg : decode cc pc = .ok (.lreturn, 1)) (h1 : cells ≤ mc) (h2 : slots ≤ ms) : W p l e R s m args below meth c H locs cells slots (MQ below (gQl E A r ws') args s mc ms A) (F0 m pc ls [.long v]) := by
  refine W.widen h1 h2 ?_
  exact W.lret C.1 C.2.1 C.2.2.2.2.2.1 (fun t ht hW => ⟨⟨v, (), rfl, hv, by rw [ht]; exact hO.1, hO.2.1⟩, hO.2.2.F ht⟩) hO.2.2.2.2 hdg C.2.2.2.2.2.2.1
theorem gRd {v r : UInt64} (C : gCx p s m args meth c cc nL Ts own (some .double) E A) (hO : gO E A s ws' H locs) (hv : v = r) (hdg : decode cc pc = .ok (.dreturn, 1)) (h1 : cells ≤ mc) (h2 : slots ≤ ms) : W p l e R s m args below meth c H locs cells slots (MQ below (gQd E A r ws') args s mc ms A) (F0 m pc ls [.double v]) := by
  refine W.widen h1 h2 ?_
  exact W.dret C.1 C.2.1 C.2.2.2.2.2.1 (fun t ht hW => ⟨⟨v, (), rfl, hv, by rw [ht]; exact hO.1, hO.2.1⟩, hO.2.2.F ht⟩) hO.2.2.2.2 hdg C.2.2.2.2.2.2.1
theorem gXRi {ty : FieldType} {v r : Int32} {ok : Prop} {XC : String → State → State → Prop} (C : gCx p s m args meth c cc nL Ts own (some ty) E A) (hO : gO E A s ws' H locs) (hn : narrow ty (.int v) = .int v) (hok : ok) (hv : v = r) (hdg : decode cc pc = .ok (.ireturn, 1)) (h1 : cells ≤ mc) (h2 : slots ≤ ms) : W p l e R s m args below meth c H locs cells slots (vx_MQ below (gXQi E A ok r ws') XC args s mc ms A) (F0 m pc ls [.int v]) := by
  refine vx_ret (W.widen h1 h2 ?_)
  exact W.zret C.1 C.2.1 C.2.2.2.2.2.1 hn (fun t ht hW => ⟨⟨v, (), rfl, ⟨hok, hv⟩, by rw [ht]; exact hO.1, hO.2.1⟩, hO.2.2.F ht⟩) hO.2.2.2.2 hdg C.2.2.2.2.2.2.1
theorem gXRv {ok : Prop} {XC : String → State → State → Prop} (C : gCx p s m args meth c cc nL Ts own none E A) (hO : gO E A s ws' H locs) (hok : ok) (hdg : decode cc pc = .ok (.return_, 1)) (h1 : cells ≤ mc) (h2 : slots ≤ ms) : W p l e R s m args below meth c H locs cells slots (vx_MQ below (gXQv E A ok ws') XC args s mc ms A) (F0 m pc ls []) := by
  refine vx_ret (W.widen h1 h2 ?_)
  exact W.vret C.1 C.2.1 C.2.2.2.2.2.1 (fun t ht hW => ⟨⟨(), rfl, hok, by rw [ht]; exact hO.1, hO.2.1⟩, hO.2.2.F ht⟩) hO.2.2.2.2 hdg C.2.2.2.2.2.2.1
/-- a throw that goes on from here: the world is ws, as at the start -/
theorem gXout {E0 : String} {bad : String → Prop} {ce : Cell} {q : Addr} {Qc : Array Value → State → Outcome → State → Prop} (C : gCx p s m args meth c cc nL Ts own ret E A) (hO : gO E A s ws H locs) (hnt : ∀ x ∈ c.exceptionTable.toList, False) (hcell : H[q]? = some ce) (hv : ce.vm = .none) (hcl : s.vm.findClass E0 = some ce.cls) (hb : bad E0) (h1 : cells ≤ mc) (h2 : slots ≤ ms) :
    vx_W p l e R s m args below meth c H locs cells slots (vx_MQ below Qc (gXC E A bad ws) args s mc ms A) (F0 m pc ls rest) q :=
  vx_out (fun x hx => (hnt x hx).elim) C.2.2.2.2.2.2.1 hcell hv hcl (fun t ht _ => ⟨(), trivial, ⟨hb, by rw [ht]; exact hO.1, hO.2.1⟩, hO.2.2.F ht⟩) hO.2.2.2.2 h1 h2
-- CALLS
variable {index n : Nat} {Cn : String} {b : Nat} {As st0 : List Value} {host : String}
theorem gPre (C : gCx p s m args meth c cc nL Ts own ret E A) (hO : gO E A s ws H locs) {U : State} (hU : U.heap = H) (hW : s.WarmedH U.vm) (av : List Value) : gP E ws H.size av av.toArray U :=
  ⟨rfl, by rw [hU], by rw [hU]; exact hO.1, C.2.2.2.2.2.2.2.1.warm hW, ⟨hO.2.1.1, fun _ _ _ => trivial⟩, by
    rw [hU]
    exact ((C.2.2.2.2.2.2.2.2.2.kept hO.2.2.2.1).narrow (gO.free C.2.2.2.2.2.2.2.2.1 hO)).moved hW.alike⟩
theorem gBack (C : gCx p s m args meth c cc nL Ts own ret E A) (hO : gO E A s ws H locs) {t : State} {H1 : Heap} {locs1 : List Loc} (ht : t.heap = H1) (hB : gB E (va_A ws H.size) ws' t) (hS : va_S A s.heap H1 locs1) : gO E A s ws' H1 locs1 :=
  ⟨by rw [← ht]; exact hB.1, ⟨hB.2.1, fun k q hk => gO.free C.2.2.2.2.2.2.2.2.1 hO _ (hB.2.2 k q hk)⟩, hS⟩
theorem gCall_i {r : Int32} (C : gCx p s m args meth c cc nL Ts own ret E A) (hO : gO E A s ws H locs) (hM : gMi l E y wl rm ws (.ref b :: As) r ws' mc ms) {ret1 : Option FieldType} (cw : CallW R s args own Cn index y bytes maxL ret1 wl rm mc ms n) (hrc : ∃ cell : Cell, H[b]? = some cell ∧ cell.vm.isStatics = false ∧ s.vm.findClass Cn = some cell.cls) (hn : As.length = n) (hsize : ls.size = nL) (hst : st0 = As.reverse ++ .ref b :: rest) (hW : (rest.map fun v => v.category).sum ≤ 8) (hdg : decode cc pc = .ok (.invokevirtual index, 3)) (hf : cells + mc ≤ R.cells ∧ slots + ms ≤ R.slots)
    (kk : ∀ (H1 : Heap) (locs1 : List Loc), gO E A s ws' H1 locs1 → W p l e R s m args below meth c H1 locs1 (cells + mc) (slots + ms) Q (F0 m (pc + 3) ls (.int r :: rest))) : W p l e R s m args below meth c H locs cells slots Q (F0 m pc ls st0) := by
  refine va_calli (va_runV (As := As) (rest := rest) C.fix (hM H.size) cw ⟨gP_blind, hrc, fun U hU hW => gPre C hO hU hW _⟩ rfl hn hsize hst (lv_room hW) hdg hf) hO.2.2 (fun q _ h => gO.free C.2.2.2.2.2.2.2.2.1 hO q h) (gO.free C.2.2.2.2.2.2.2.2.1 hO) (fun r1 u t H1 locs1 ht hvm hw hB hz1 hk1 hS => ?_)
  subst hw
  exact kk H1 locs1 (gBack C hO ht hB hS)
theorem gCall_v (C : gCx p s m args meth c cc nL Ts own ret E A) (hO : gO E A s ws H locs) (hM : gMv l E y wl rm ws (.ref b :: As) ws' mc ms) {ret1 : Option FieldType} (cw : CallW R s args own Cn index y bytes maxL ret1 wl rm mc ms n) (hrc : ∃ cell : Cell, H[b]? = some cell ∧ cell.vm.isStatics = false ∧ s.vm.findClass Cn = some cell.cls) (hn : As.length = n) (hsize : ls.size = nL) (hst : st0 = As.reverse ++ .ref b :: rest) (hW : (rest.map fun v => v.category).sum ≤ 8) (hdg : decode cc pc = .ok (.invokevirtual index, 3)) (hf : cells + mc ≤ R.cells ∧ slots + ms ≤ R.slots)
    (kk : ∀ (H1 : Heap) (locs1 : List Loc), gO E A s ws' H1 locs1 → W p l e R s m args below meth c H1 locs1 (cells + mc) (slots + ms) Q (F0 m (pc + 3) ls rest)) : W p l e R s m args below meth c H locs cells slots Q (F0 m pc ls st0) := by
  refine va_callv (va_runV (As := As) (rest := rest) C.fix (hM H.size) cw ⟨gP_blind, hrc, fun U hU hW => gPre C hO hU hW _⟩ rfl hn hsize hst (lv_room hW) hdg hf) hO.2.2 (fun q _ h => gO.free C.2.2.2.2.2.2.2.2.1 hO q h) (gO.free C.2.2.2.2.2.2.2.2.1 hO) (fun u t H1 locs1 ht hvm hw hB hz1 hk1 hS => ?_)
  exact kk H1 locs1 (gBack C hO ht hB hS)
theorem gCall_l {r : Int64} (C : gCx p s m args meth c cc nL Ts own ret E A) (hO : gO E A s ws H locs) (hM : gMl l E y wl rm ws (.ref b :: As) r ws' mc ms) {ret1 : Option FieldType} (cw : CallW R s args own Cn index y bytes maxL ret1 wl rm mc ms n) (hrc : ∃ cell : Cell, H[b]? = some cell ∧ cell.vm.isStatics = false ∧ s.vm.findClass Cn = some cell.cls) (hn : As.length = n) (hsize : ls.size = nL) (hst : st0 = As.reverse ++ .ref b :: rest) (hW : (rest.map fun v => v.category).sum ≤ 8) (hdg : decode cc pc = .ok (.invokevirtual index, 3)) (hf : cells + mc ≤ R.cells ∧ slots + ms ≤ R.slots)
    (kk : ∀ (H1 : Heap) (locs1 : List Loc), gO E A s ws' H1 locs1 → W p l e R s m args below meth c H1 locs1 (cells + mc) (slots + ms) Q (F0 m (pc + 3) ls (.long r :: rest))) : W p l e R s m args below meth c H locs cells slots Q (F0 m pc ls st0) := by
  refine va_calll (va_runV (As := As) (rest := rest) C.fix (hM H.size) cw ⟨gP_blind, hrc, fun U hU hW => gPre C hO hU hW _⟩ rfl hn hsize hst (lv_room hW) hdg hf) hO.2.2 (fun q _ h => gO.free C.2.2.2.2.2.2.2.2.1 hO q h) (gO.free C.2.2.2.2.2.2.2.2.1 hO) (fun r1 u t H1 locs1 ht hvm hw hB hz1 hk1 hS => ?_)
  subst hw
  exact kk H1 locs1 (gBack C hO ht hB hS)
theorem gCall_d {r : UInt64} (C : gCx p s m args meth c cc nL Ts own ret E A) (hO : gO E A s ws H locs) (hM : gMd l E y wl rm ws (.ref b :: As) r ws' mc ms) {ret1 : Option FieldType} (cw : CallW R s args own Cn index y bytes maxL ret1 wl rm mc ms n) (hrc : ∃ cell : Cell, H[b]? = some cell ∧ cell.vm.isStatics = false ∧ s.vm.findClass Cn = some cell.cls) (hn : As.length = n) (hsize : ls.size = nL) (hst : st0 = As.reverse ++ .ref b :: rest) (hW : (rest.map fun v => v.category).sum ≤ 8) (hdg : decode cc pc = .ok (.invokevirtual index, 3)) (hf : cells + mc ≤ R.cells ∧ slots + ms ≤ R.slots)
    (kk : ∀ (H1 : Heap) (locs1 : List Loc), gO E A s ws' H1 locs1 → W p l e R s m args below meth c H1 locs1 (cells + mc) (slots + ms) Q (F0 m (pc + 3) ls (.double r :: rest))) : W p l e R s m args below meth c H locs cells slots Q (F0 m pc ls st0) := by
  refine va_calld (va_runV (As := As) (rest := rest) C.fix (hM H.size) cw ⟨gP_blind, hrc, fun U hU hW => gPre C hO hU hW _⟩ rfl hn hsize hst (lv_room hW) hdg hf) hO.2.2 (fun q _ h => gO.free C.2.2.2.2.2.2.2.2.1 hO q h) (gO.free C.2.2.2.2.2.2.2.2.1 hO) (fun r1 u t H1 locs1 ht hvm hw hB hz1 hk1 hS => ?_)
  subst hw
  exact kk H1 locs1 (gBack C hO ht hB hS)
/-- static calls -/
theorem gCallS_i {r : Int32} (C : gCx p s m args meth c cc nL Ts own ret E A) (hO : gO E A s ws H locs) (hM : gMi l E y wl rm ws As r ws' mc ms) {ret1 : Option FieldType} (cw : CallB R s args own index y bytes maxL ret1 wl rm mc ms n ∧ (Cond.static y).before args s = true) (hn : As.length = n) (hsize : ls.size = nL) (hst : st0 = As.reverse ++ rest) (hW : (rest.map fun v => v.category).sum ≤ 8) (hdg : decode cc pc = .ok (.invokestatic index, 3)) (hf : cells + mc ≤ R.cells ∧ slots + ms ≤ R.slots)
    (kk : ∀ (H1 : Heap) (locs1 : List Loc), gO E A s ws' H1 locs1 → W p l e R s m args below meth c H1 locs1 (cells + mc) (slots + ms) Q (F0 m (pc + 3) ls (.int r :: rest))) : W p l e R s m args below meth c H locs cells slots Q (F0 m pc ls st0) := by
  refine va_calli (va_runS (As := As) (rest := rest) C.fix (hM H.size) cw ⟨gP_blind, fun U hU hW => gPre C hO hU hW _⟩ rfl hn hsize hst (lv_room hW) hdg hf) hO.2.2 (fun q _ h => gO.free C.2.2.2.2.2.2.2.2.1 hO q h) (gO.free C.2.2.2.2.2.2.2.2.1 hO) (fun r1 u t H1 locs1 ht hvm hw hB hz1 hk1 hS => ?_)
  subst hw
  exact kk H1 locs1 (gBack C hO ht hB hS)
theorem gCallS_l {r : Int64} (C : gCx p s m args meth c cc nL Ts own ret E A) (hO : gO E A s ws H locs) (hM : gMl l E y wl rm ws As r ws' mc ms) {ret1 : Option FieldType} (cw : CallB R s args own index y bytes maxL ret1 wl rm mc ms n ∧ (Cond.static y).before args s = true) (hn : As.length = n) (hsize : ls.size = nL) (hst : st0 = As.reverse ++ rest) (hW : (rest.map fun v => v.category).sum ≤ 8) (hdg : decode cc pc = .ok (.invokestatic index, 3)) (hf : cells + mc ≤ R.cells ∧ slots + ms ≤ R.slots)
    (kk : ∀ (H1 : Heap) (locs1 : List Loc), gO E A s ws' H1 locs1 → W p l e R s m args below meth c H1 locs1 (cells + mc) (slots + ms) Q (F0 m (pc + 3) ls (.long r :: rest))) : W p l e R s m args below meth c H locs cells slots Q (F0 m pc ls st0) := by
  refine va_calll (va_runS (As := As) (rest := rest) C.fix (hM H.size) cw ⟨gP_blind, fun U hU hW => gPre C hO hU hW _⟩ rfl hn hsize hst (lv_room hW) hdg hf) hO.2.2 (fun q _ h => gO.free C.2.2.2.2.2.2.2.2.1 hO q h) (gO.free C.2.2.2.2.2.2.2.2.1 hO) (fun r1 u t H1 locs1 ht hvm hw hB hz1 hk1 hS => ?_)
  subst hw
  exact kk H1 locs1 (gBack C hO ht hB hS)
/-- calls of a nest mate's private methods -/
theorem gCallN_i {r : Int32} (C : gCx p s m args meth c cc nL Ts own ret E A) (hO : gO E A s ws H locs) (hM : gMi l E y wl rm ws (.ref b :: As) r ws' mc ms) {ret1 : Option FieldType} (cw : va_CN R s args own index y host bytes maxL ret1 wl rm mc ms n ∧ (Cond.instanceMethod y).before args s = true ∧ (Cond.selects Cn y y).before args s = true) (hrc : ∃ cell : Cell, H[b]? = some cell ∧ cell.vm.isStatics = false ∧ s.vm.findClass Cn = some cell.cls) (hn : As.length = n) (hsize : ls.size = nL) (hst : st0 = As.reverse ++ .ref b :: rest) (hW : (rest.map fun v => v.category).sum ≤ 8) (hdg : decode cc pc = .ok (.invokevirtual index, 3)) (hf : cells + mc ≤ R.cells ∧ slots + ms ≤ R.slots)
    (kk : ∀ (H1 : Heap) (locs1 : List Loc), gO E A s ws' H1 locs1 → W p l e R s m args below meth c H1 locs1 (cells + mc) (slots + ms) Q (F0 m (pc + 3) ls (.int r :: rest))) : W p l e R s m args below meth c H locs cells slots Q (F0 m pc ls st0) := by
  refine va_calli (va_runVN (As := As) (rest := rest) C.fix (hM H.size) cw ⟨gP_blind, hrc, fun U hU hW => gPre C hO hU hW _⟩ rfl hn hsize hst (lv_room hW) hdg hf) hO.2.2 (fun q _ h => gO.free C.2.2.2.2.2.2.2.2.1 hO q h) (gO.free C.2.2.2.2.2.2.2.2.1 hO) (fun r1 u t H1 locs1 ht hvm hw hB hz1 hk1 hS => ?_)
  subst hw
  exact kk H1 locs1 (gBack C hO ht hB hS)
theorem gCallN_v (C : gCx p s m args meth c cc nL Ts own ret E A) (hO : gO E A s ws H locs) (hM : gMv l E y wl rm ws (.ref b :: As) ws' mc ms) {ret1 : Option FieldType} (cw : va_CN R s args own index y host bytes maxL ret1 wl rm mc ms n ∧ (Cond.instanceMethod y).before args s = true ∧ (Cond.selects Cn y y).before args s = true) (hrc : ∃ cell : Cell, H[b]? = some cell ∧ cell.vm.isStatics = false ∧ s.vm.findClass Cn = some cell.cls) (hn : As.length = n) (hsize : ls.size = nL) (hst : st0 = As.reverse ++ .ref b :: rest) (hW : (rest.map fun v => v.category).sum ≤ 8) (hdg : decode cc pc = .ok (.invokevirtual index, 3)) (hf : cells + mc ≤ R.cells ∧ slots + ms ≤ R.slots)
    (kk : ∀ (H1 : Heap) (locs1 : List Loc), gO E A s ws' H1 locs1 → W p l e R s m args below meth c H1 locs1 (cells + mc) (slots + ms) Q (F0 m (pc + 3) ls rest)) : W p l e R s m args below meth c H locs cells slots Q (F0 m pc ls st0) := by
  refine va_callv (va_runVN (As := As) (rest := rest) C.fix (hM H.size) cw ⟨gP_blind, hrc, fun U hU hW => gPre C hO hU hW _⟩ rfl hn hsize hst (lv_room hW) hdg hf) hO.2.2 (fun q _ h => gO.free C.2.2.2.2.2.2.2.2.1 hO q h) (gO.free C.2.2.2.2.2.2.2.2.1 hO) (fun u t H1 locs1 ht hvm hw hB hz1 hk1 hS => ?_)
  exact kk H1 locs1 (gBack C hO ht hB hS)
-- FIELDS AND ARRAYS
theorem gPut {ref : String} {T : u_T} {N ci : Nat} {a : Nat} (C : gCx p s m args meth c cc nL Ts own ret E A) (hin : ∀ w ∈ u_ws Cn T N, w ∈ Ts) (ty0 : Nat → FieldType) (hty : ∀ k, k < N → parseFieldDescriptor (T k).2.2.1 = some (ty0 k)) (hnm : ∀ a, a < N → ∀ b, b < N → a ≠ b → (T a).2.1 ≠ (T b).2.1) (hO : gO E A s ws H locs) (q0 : Nat) {fs : List Value} (he : ws[q0]? = some (a, .inr (ci, fs))) (hc : vwCl[ci]? = some (Cn, T, N)) (k : Nat) (hk : k < N) (hlink : Cond.fieldLink own index ref (T k).2.1 (T k).2.2.1 ∈ Ts) (hsame : ∀ x, s.fieldFound? (T k).1 (T k).2.1 (T k).2.2.1 = some x → s.fieldFound? ref (T k).2.1 (T k).2.2.1 = some x) (hfin : (T k).2.2.2 = false) {v : Value} (hd : parseFieldDescriptor (T k).2.2.1 = some (ty0 k)) (hn : narrow (ty0 k) v = v) (hfit : fits (ty0 k) v = true) (hl : k < fs.length) (hw : ws.set q0 (a, .inr (ci, fs.set k v)) = ws')
    (hdg : decode cc pc = .ok (.putfield index, 3)) (kk : ∀ (H1 : Heap) (locs1 : List Loc), gO E A s ws' H1 locs1 → W p l e R s m args below meth c H1 locs1 cells slots Q (F0 m (pc + 3) ls rest)) : W p l e R s m args below meth c H locs cells slots Q (F0 m pc ls (v :: .ref a :: rest)) :=
  va_put C.1 C.2.1 C.2.2.2.2.1 hin ty0 hty hnm C.2.2.2.1 C.2.2.2.2.2.2.2.1.1 hO.1 hO.2.1 hO.2.2 q0 he hc k hk (C.2.2.2.2.1 _ hlink) hsame hfin hd hn hfit hl hdg (fun H1 locs1 hP hD hS => kk H1 locs1 ⟨hw ▸ hP, hw ▸ hD, hS⟩)
theorem gPutN {ref : String} {T : u_T} {N ci : Nat} {a : Nat} (C : gCx p s m args meth c cc nL Ts own ret E A) (hin : ∀ w ∈ u_ws Cn T N, w ∈ Ts) (ty0 : Nat → FieldType) (hty : ∀ k, k < N → parseFieldDescriptor (T k).2.2.1 = some (ty0 k)) (hnm : ∀ a, a < N → ∀ b, b < N → a ≠ b → (T a).2.1 ≠ (T b).2.1) (hO : gO E A s ws H locs) (q0 : Nat) {fs : List Value} (he : ws[q0]? = some (a, .inr (ci, fs))) (hc : vwCl[ci]? = some (Cn, T, N)) (k : Nat) (hk : k < N) (hlink : Cond.fieldLinkNest own index ref (T k).2.1 (T k).2.2.1 host ∈ eNw) (hsame : ∀ x, s.fieldFound? (T k).1 (T k).2.1 (T k).2.2.1 = some x → s.fieldFound? ref (T k).2.1 (T k).2.2.1 = some x) (hfin : (T k).2.2.2 = false) {v : Value} (hd : parseFieldDescriptor (T k).2.2.1 = some (ty0 k)) (hn : narrow (ty0 k) v = v) (hfit : fits (ty0 k) v = true) (hl : k < fs.length) (hw : ws.set q0 (a, .inr (ci, fs.set k v)) = ws')
    (hdg : decode cc pc = .ok (.putfield index, 3)) (kk : ∀ (H1 : Heap) (locs1 : List Loc), gO E A s ws' H1 locs1 → W p l e R s m args below meth c H1 locs1 cells slots Q (F0 m (pc + 3) ls rest)) : W p l e R s m args below meth c H locs cells slots Q (F0 m pc ls (v :: .ref a :: rest)) :=
  va_putN C.1 C.2.1 C.2.2.2.2.1 hin ty0 hty hnm C.2.2.2.1 C.2.2.2.2.2.2.2.1.1 hO.1 hO.2.1 hO.2.2 q0 he hc k hk (va_Nw.use rfl (C.2.2.2.2.2.2.2.1.2.1 _ hlink)) hsame hfin hd hn hfit hl hdg (fun H1 locs1 hP hD hS => kk H1 locs1 ⟨hw ▸ hP, hw ▸ hD, hS⟩)
theorem gGet {ref : String} {T : u_T} {N ci : Nat} {a : Nat} (C : gCx p s m args meth c cc nL Ts own ret E A) (hin : ∀ w ∈ u_ws Cn T N, w ∈ Ts) (hO : gO E A s ws H locs) (q0 : Nat) {fs : List Value} (he : ws[q0]? = some (a, .inr (ci, fs))) (hc : vwCl[ci]? = some (Cn, T, N)) (k : Nat) (hk : k < N) (hlink : Cond.fieldLink own index ref (T k).2.1 (T k).2.2.1 ∈ Ts) (hsame : ∀ x, s.fieldFound? (T k).1 (T k).2.1 (T k).2.2.1 = some x → s.fieldFound? ref (T k).2.1 (T k).2.2.1 = some x) {v : Value} (hv : fs[k]? = some v)
    (hdg : decode cc pc = .ok (.getfield index, 3)) (kk : W p l e R s m args below meth c H locs cells slots Q (F0 m (pc + 3) ls (v :: rest))) : W p l e R s m args below meth c H locs cells slots Q (F0 m pc ls (.ref a :: rest)) :=
  va_get C.1 C.2.1 C.2.2.2.2.1 hin C.2.2.2.1 C.2.2.2.2.2.2.2.1.1 hO.1 q0 he hc k hk (C.2.2.2.2.1 _ hlink) hsame hv hdg kk
theorem gGetN {ref : String} {T : u_T} {N ci : Nat} {a : Nat} (C : gCx p s m args meth c cc nL Ts own ret E A) (hin : ∀ w ∈ u_ws Cn T N, w ∈ Ts) (hO : gO E A s ws H locs) (q0 : Nat) {fs : List Value} (he : ws[q0]? = some (a, .inr (ci, fs))) (hc : vwCl[ci]? = some (Cn, T, N)) (k : Nat) (hk : k < N) (hlink : Cond.fieldLinkNest own index ref (T k).2.1 (T k).2.2.1 host ∈ eNw) (hsame : ∀ x, s.fieldFound? (T k).1 (T k).2.1 (T k).2.2.1 = some x → s.fieldFound? ref (T k).2.1 (T k).2.2.1 = some x) {v : Value} (hv : fs[k]? = some v)
    (hdg : decode cc pc = .ok (.getfield index, 3)) (kk : W p l e R s m args below meth c H locs cells slots Q (F0 m (pc + 3) ls (v :: rest))) : W p l e R s m args below meth c H locs cells slots Q (F0 m pc ls (.ref a :: rest)) :=
  va_getN C.1 C.2.1 C.2.2.2.2.1 hin C.2.2.2.1 C.2.2.2.2.2.2.2.1.1 hO.1 q0 he hc k hk (va_Nw.use rfl (C.2.2.2.2.2.2.2.1.2.1 _ hlink)) hsame hv hdg kk
theorem gIald {a N : Nat} {f : Nat → Int32} {j : Nat} {v : Int32} (C : gCx p s m args meth c cc nL Ts own ret E A) (hO : gO E A s ws H locs) (q0 : Nat) (ha : ws[q0]? = some (a, .inl (eI E, N, .inl f))) (hj : j < N) (hN : N ≤ 100) (hv : f j = v) (hdg : decode cc pc = .ok (.iaload, 1))
    (kk : W p l e R s m args below meth c H locs cells slots Q (F0 m (pc + 1) ls (.int v :: rest))) : W p l e R s m args below meth c H locs cells slots Q (F0 m pc ls (.int (nI j) :: .ref a :: rest)) := by
  refine va_iald C.1 C.2.1 C.2.2.2.2.2.2.2.1.1 hO.1 q0 0 ha rfl (vp_in_nI hj (by omega)) hdg ?_
  rw [nI_clamp (by omega), hv]
  exact kk
theorem gZald {a N : Nat} {f : Nat → Int32} {j : Nat} {v : Int32} (C : gCx p s m args meth c cc nL Ts own ret E A) (hO : gO E A s ws H locs) (q0 : Nat) (ha : ws[q0]? = some (a, .inl (eZ E, N, .inl f))) (hj : j < N) (hN : N ≤ 100) (hv : f j = v) (hdg : decode cc pc = .ok (.baload, 1))
    (kk : W p l e R s m args below meth c H locs cells slots Q (F0 m (pc + 1) ls (.int v :: rest))) : W p l e R s m args below meth c H locs cells slots Q (F0 m pc ls (.int (nI j) :: .ref a :: rest)) := by
  refine va_zald C.1 C.2.1 C.2.2.2.2.2.2.2.1.1 hO.1 q0 1 ha rfl (vp_in_nI hj (by omega)) hdg ?_
  rw [nI_clamp (by omega), hv]
  exact kk
theorem gAald {a N : Nat} {f : Nat → Option Nat} {j v : Nat} (C : gCx p s m args meth c cc nL Ts own ret E A) (hO : gO E A s ws H locs) (q0 : Nat) (ha : ws[q0]? = some (a, .inl (eO E, N, .inr (.inr (.inr (.inr f)))))) (hj : j < N) (hN : N ≤ 100) (hv : f j = some v) (hdg : decode cc pc = .ok (.aaload, 1))
    (kk : W p l e R s m args below meth c H locs cells slots Q (F0 m (pc + 1) ls (.ref v :: rest))) : W p l e R s m args below meth c H locs cells slots Q (F0 m pc ls (.int (nI j) :: .ref a :: rest)) := by
  refine va_aldq (C := RX1) C.1 C.2.1 C.2.2.2.2.2.2.2.1.1 hO.1 q0 2 ha rfl (vp_in_nI hj (by omega)) hdg ?_
  rw [nI_clamp (by omega), hv]
  exact kk
theorem gIast {a N : Nat} {f : Nat → Int32} {j : Nat} {x : Int32} (C : gCx p s m args meth c cc nL Ts own ret E A) (hO : gO E A s ws H locs) (q0 : Nat) (ha : ws[q0]? = some (a, .inl (eI E, N, .inl f))) (hj : j < N) (hN : N ≤ 100) (hw : ws.set q0 (a, .inl (eI E, N, .inl (upd f j x))) = ws') (hdg : decode cc pc = .ok (.iastore, 1))
    (kk : ∀ (H1 : Heap) (locs1 : List Loc), gO E A s ws' H1 locs1 → W p l e R s m args below meth c H1 locs1 cells slots Q (F0 m (pc + 1) ls rest)) : W p l e R s m args below meth c H locs cells slots Q (F0 m pc ls (.int x :: .int (nI j) :: .ref a :: rest)) := by
  refine va_iast C.1 C.2.1 C.2.2.2.2.2.2.2.1.1 hO.1 hO.2.1 hO.2.2 q0 0 ha rfl (vp_in_nI hj (by omega)) hdg (fun H1 locs1 hP hD hS => ?_)
  rw [nI_clamp (by omega), hw] at hP hD
  exact kk H1 locs1 ⟨hP, hD, hS⟩
theorem gZast {a N : Nat} {f : Nat → Int32} {j : Nat} {x : Int32} (C : gCx p s m args meth c cc nL Ts own ret E A) (hO : gO E A s ws H locs) (q0 : Nat) (ha : ws[q0]? = some (a, .inl (eZ E, N, .inl f))) (hj : j < N) (hN : N ≤ 100) (hx : vp_nar .boolean x = x) (hw : ws.set q0 (a, .inl (eZ E, N, .inl (upd f j x))) = ws') (hdg : decode cc pc = .ok (.bastore, 1))
    (kk : ∀ (H1 : Heap) (locs1 : List Loc), gO E A s ws' H1 locs1 → W p l e R s m args below meth c H1 locs1 cells slots Q (F0 m (pc + 1) ls rest)) : W p l e R s m args below meth c H locs cells slots Q (F0 m pc ls (.int x :: .int (nI j) :: .ref a :: rest)) := by
  refine va_zast C.1 C.2.1 C.2.2.2.2.2.2.2.1.1 hO.1 hO.2.1 hO.2.2 q0 1 ha rfl (vp_in_nI hj (by omega)) hdg (fun H1 locs1 hP hD hS => ?_)
  rw [nI_clamp (by omega), hx, hw] at hP hD
  exact kk H1 locs1 ⟨hP, hD, hS⟩
-- NUMBERS THAT COUNT
theorem gAddN {x y : Nat} (hexec : p.tables.exec = Jvm.exec) (hb : c.code = cc) (hdg : decode cc pc = .ok (.iadd, 1)) (k : W p l e R s m args below meth c H locs cells slots Q (F0 m (pc + 1) ls (.int (nI (x + y)) :: rest))) : W p l e R s m args below meth c H locs cells slots Q (F0 m pc ls (.int (nI y) :: .int (nI x) :: rest)) :=
  lv_iadd hexec hb hdg (by rw [nI_add]; exact k)
theorem gSubN {x y : Nat} (hexec : p.tables.exec = Jvm.exec) (hb : c.code = cc) (hle : y ≤ x) (hdg : decode cc pc = .ok (.isub, 1)) (k : W p l e R s m args below meth c H locs cells slots Q (F0 m (pc + 1) ls (.int (nI (x - y)) :: rest))) : W p l e R s m args below meth c H locs cells slots Q (F0 m pc ls (.int (nI y) :: .int (nI x) :: rest)) :=
  lv_isub hexec hb hdg (by rw [pk_sub hle]; exact k)
theorem gMulN {x y : Nat} (hexec : p.tables.exec = Jvm.exec) (hb : c.code = cc) (hdg : decode cc pc = .ok (.imul, 1)) (k : W p l e R s m args below meth c H locs cells slots Q (F0 m (pc + 1) ls (.int (nI (x * y)) :: rest))) : W p l e R s m args below meth c H locs cells slots Q (F0 m pc ls (.int (nI y) :: .int (nI x) :: rest)) :=
  lv_imul hexec hb hdg (by rw [pk_mul]; exact k)
theorem gLtN {x y tgt : Nat} {off : Int} (hexec : p.tables.exec = Jvm.exec) (hb : c.code = cc) (h1 : x < 1000000) (h2 : y < 1000000) (hdg : decode cc pc = .ok (.if_icmp .lt off, 3)) (ht : (pc : Int) + off = (tgt : Int)) (kt : x < y → W p l e R s m args below meth c H locs cells slots Q (F0 m tgt ls rest)) (kf : y ≤ x → W p l e R s m args below meth c H locs cells slots Q (F0 m (pc + 3) ls rest)) : W p l e R s m args below meth c H locs cells slots Q (F0 m pc ls (.int (nI y) :: .int (nI x) :: rest)) :=
  lv_icmp_lt hexec hb hdg ht (fun h => kt ((nI_ltI (by omega) (by omega)).mp h)) (fun h => kf (by rw [nI_ltI (by omega) (by omega)] at h; omega))
theorem gGeN {x y tgt : Nat} {off : Int} (hexec : p.tables.exec = Jvm.exec) (hb : c.code = cc) (h1 : x < 1000000) (h2 : y < 1000000) (hdg : decode cc pc = .ok (.if_icmp .ge off, 3)) (ht : (pc : Int) + off = (tgt : Int)) (kt : y ≤ x → W p l e R s m args below meth c H locs cells slots Q (F0 m tgt ls rest)) (kf : x < y → W p l e R s m args below meth c H locs cells slots Q (F0 m (pc + 3) ls rest)) : W p l e R s m args below meth c H locs cells slots Q (F0 m pc ls (.int (nI y) :: .int (nI x) :: rest)) :=
  lv_icmp_ge hexec hb hdg ht (fun h => kt ((nI_leI (by omega) (by omega)).mp h)) (fun h => kf (by rw [nI_leI (by omega) (by omega)] at h; omega))
theorem gGtN {x y tgt : Nat} {off : Int} (hexec : p.tables.exec = Jvm.exec) (hb : c.code = cc) (h1 : x < 1000000) (h2 : y < 1000000) (hdg : decode cc pc = .ok (.if_icmp .gt off, 3)) (ht : (pc : Int) + off = (tgt : Int)) (kt : y < x → W p l e R s m args below meth c H locs cells slots Q (F0 m tgt ls rest)) (kf : x ≤ y → W p l e R s m args below meth c H locs cells slots Q (F0 m (pc + 3) ls rest)) : W p l e R s m args below meth c H locs cells slots Q (F0 m pc ls (.int (nI y) :: .int (nI x) :: rest)) :=
  lv_icmp_gt hexec hb hdg ht (fun h => kt ((nI_ltI (by omega) (by omega)).mp h)) (fun h => kf (by rw [nI_ltI (by omega) (by omega)] at h; omega))
theorem gLeN {x y tgt : Nat} {off : Int} (hexec : p.tables.exec = Jvm.exec) (hb : c.code = cc) (h1 : x < 1000000) (h2 : y < 1000000) (hdg : decode cc pc = .ok (.if_icmp .le off, 3)) (ht : (pc : Int) + off = (tgt : Int)) (kt : x ≤ y → W p l e R s m args below meth c H locs cells slots Q (F0 m tgt ls rest)) (kf : y < x → W p l e R s m args below meth c H locs cells slots Q (F0 m (pc + 3) ls rest)) : W p l e R s m args below meth c H locs cells slots Q (F0 m pc ls (.int (nI y) :: .int (nI x) :: rest)) :=
  lv_icmp_le hexec hb hdg ht (fun h => kt ((nI_leI (by omega) (by omega)).mp h)) (fun h => kf (by rw [nI_leI (by omega) (by omega)] at h; omega))
theorem gEqN {x y tgt : Nat} {off : Int} (hexec : p.tables.exec = Jvm.exec) (hb : c.code = cc) (h1 : x < 1000000) (h2 : y < 1000000) (hdg : decode cc pc = .ok (.if_icmp .eq off, 3)) (ht : (pc : Int) + off = (tgt : Int)) (kt : x = y → W p l e R s m args below meth c H locs cells slots Q (F0 m tgt ls rest)) (kf : x ≠ y → W p l e R s m args below meth c H locs cells slots Q (F0 m (pc + 3) ls rest)) : W p l e R s m args below meth c H locs cells slots Q (F0 m pc ls (.int (nI y) :: .int (nI x) :: rest)) :=
  lv_icmp_eq hexec hb hdg ht (fun h => kt ((nI_eq (by omega) (by omega)).mp h)) (fun h => kf (fun q => h (by rw [q])))
theorem gNeN {x y tgt : Nat} {off : Int} (hexec : p.tables.exec = Jvm.exec) (hb : c.code = cc) (h1 : x < 1000000) (h2 : y < 1000000) (hdg : decode cc pc = .ok (.if_icmp .ne off, 3)) (ht : (pc : Int) + off = (tgt : Int)) (kt : x ≠ y → W p l e R s m args below meth c H locs cells slots Q (F0 m tgt ls rest)) (kf : x = y → W p l e R s m args below meth c H locs cells slots Q (F0 m (pc + 3) ls rest)) : W p l e R s m args below meth c H locs cells slots Q (F0 m pc ls (.int (nI y) :: .int (nI x) :: rest)) :=
  lv_icmp_ne hexec hb hdg ht (fun h => kt (fun q => h (by rw [q]))) (fun h => kf ((nI_eq (by omega) (by omega)).mp h))
/-- a counter goes up by one -/
theorem gInc {i k j n9 : Nat} {lv lv' : List (Nat × Value)} (hexec : p.tables.exec = Jvm.exec) (hb : c.code = cc) (hdg : decode cc pc = .ok (.iinc i 1, 3)) (h : lv_has ls n9 lv) (hk : lv[k]? = some (i, .int (nI j))) (hn : i < n9) (hl : (i, Value.int (nI (j + 1))) :: lv.filter (fun q => !(q.1 == i) && !(q.1 + 1 == i && q.2.category == 2)) = lv')
    (kk : ∀ ls' : Array Slot, lv_has ls' n9 lv' → W p l e R s m args below meth c H locs cells slots Q (F0 m (pc + 3) ls' rest)) : W p l e R s m args below meth c H locs cells slots Q (F0 m pc ls rest) :=
  lv_iinc (v := nI (j + 1)) hexec hb hdg h hk (by rw [← nI_1]; rfl) hn hl kk
/-- .. or down -/
theorem gDec {i k j n9 : Nat} {lv lv' : List (Nat × Value)} (hexec : p.tables.exec = Jvm.exec) (hb : c.code = cc) (hdg : decode cc pc = .ok (.iinc i (-1), 3)) (h : lv_has ls n9 lv) (hk : lv[k]? = some (i, .int (nI (j + 1)))) (hn : i < n9) (hl : (i, Value.int (nI j)) :: lv.filter (fun q => !(q.1 == i) && !(q.1 + 1 == i && q.2.category == 2)) = lv')
    (kk : ∀ ls' : Array Slot, lv_has ls' n9 lv' → W p l e R s m args below meth c H locs cells slots Q (F0 m (pc + 3) ls' rest)) : W p l e R s m args below meth c H locs cells slots Q (F0 m pc ls rest) :=
  lv_iinc (v := nI j) hexec hb hdg h hk (pk_m1 j) hn hl kk
end GC
end
section
theorem iNlt {x y : Int32} (h : y ≤ x) : ¬ x < y := by rw [Int32.le_iff_toInt_le] at h; rw [Int32.lt_iff_toInt_lt]; omega
theorem iLt {x y : Int32} (h : ¬ y ≤ x) : x < y := by rw [Int32.le_iff_toInt_le] at h; rw [Int32.lt_iff_toInt_lt]; omega
theorem bT {P : Prop} [Decidable P] (h : ¬ (if P then (1 : Int32) else 0) = 0) : P := by
  by_cases q : P
  · exact q
  · rw [if_neg q] at h; exact absurd rfl h
theorem bF {P : Prop} [Decidable P] (h : (if P then (1 : Int32) else 0) = 0) : ¬ P := by
  intro q
  rw [if_pos q] at h
  exact absurd h (by decide)
theorem eNw_ot : ∀ w ∈ eNw, w.onTables = true := by decide +kernel
section GD
variable {p : Program} {l : Launch} {e : Env} {R : Room} {s : State} {m : MethodId} {args : Array Value} {below : List Frame} {meth : Method} {c : Code} {H : Heap} {locs : List Loc} {cells slots : Nat} {Q : State → Prop}
variable {E : gE} {A : Nat → Prop} {ws ws' : va_W} {y : MethodName} {wl wl' : List Cond} {rm : Room} {av : List Value} {mc ms : Nat} {cc bytes : ByteArray} {maxL nL : Nat} {ret : Option FieldType} {Ts : List Cond} {own : String}
variable {pc : Nat} {ls : Array Slot} {rest : List Value} {index n : Nat} {Cn : String} {b : Nat} {As st0 : List Value} {host : String}
theorem gNb (C : gCx p s m args meth c cc nL Ts own ret E A) : ∀ w ∈ eNw, w.before args s = true := fun w hw => va_Nw.use (eNw_ot w hw) (C.2.2.2.2.2.2.2.1.2.1 w hw)
theorem lv_eqi {x y : Int32} (h : x = y) (k : W p l e R s m args below meth c H locs cells slots Q (F0 m pc ls (.int y :: rest))) : W p l e R s m args below meth c H locs cells slots Q (F0 m pc ls (.int x :: rest)) := h ▸ k
theorem gGeI {x y : Int32} {tgt : Nat} {off : Int} (hexec : p.tables.exec = Jvm.exec) (hb : c.code = cc) (hdg : decode cc pc = .ok (.if_icmp .ge off, 3)) (ht : (pc : Int) + off = (tgt : Int)) (kt : ¬ x < y → W p l e R s m args below meth c H locs cells slots Q (F0 m tgt ls rest)) (kf : x < y → W p l e R s m args below meth c H locs cells slots Q (F0 m (pc + 3) ls rest)) : W p l e R s m args below meth c H locs cells slots Q (F0 m pc ls (.int y :: .int x :: rest)) :=
  lv_icmp_ge hexec hb hdg ht (fun h => kt (iNlt h)) (fun h => kf (iLt h))
theorem gLeI {x y : Int32} {tgt : Nat} {off : Int} (hexec : p.tables.exec = Jvm.exec) (hb : c.code = cc) (hdg : decode cc pc = .ok (.if_icmp .le off, 3)) (ht : (pc : Int) + off = (tgt : Int)) (kt : ¬ y < x → W p l e R s m args below meth c H locs cells slots Q (F0 m tgt ls rest)) (kf : y < x → W p l e R s m args below meth c H locs cells slots Q (F0 m (pc + 3) ls rest)) : W p l e R s m args below meth c H locs cells slots Q (F0 m pc ls (.int y :: .int x :: rest)) :=
  lv_icmp_le hexec hb hdg ht (fun h => kt (iNlt h)) (fun h => kf (iLt h))
theorem gGe0 {x : Int32} {tgt : Nat} {off : Int} (hexec : p.tables.exec = Jvm.exec) (hb : c.code = cc) (hdg : decode cc pc = .ok (.ifCond .ge off, 3)) (ht : (pc : Int) + off = (tgt : Int)) (kt : ¬ x < 0 → W p l e R s m args below meth c H locs cells slots Q (F0 m tgt ls rest)) (kf : x < 0 → W p l e R s m args below meth c H locs cells slots Q (F0 m (pc + 3) ls rest)) : W p l e R s m args below meth c H locs cells slots Q (F0 m pc ls (.int x :: rest)) :=
  lv_if_ge hexec hb hdg ht (fun h => kt (iNlt h)) (fun h => kf (iLt h))
theorem gLe0 {x : Int32} {tgt : Nat} {off : Int} (hexec : p.tables.exec = Jvm.exec) (hb : c.code = cc) (hdg : decode cc pc = .ok (.ifCond .le off, 3)) (ht : (pc : Int) + off = (tgt : Int)) (kt : ¬ 0 < x → W p l e R s m args below meth c H locs cells slots Q (F0 m tgt ls rest)) (kf : 0 < x → W p l e R s m args below meth c H locs cells slots Q (F0 m (pc + 3) ls rest)) : W p l e R s m args below meth c H locs cells slots Q (F0 m pc ls (.int x :: rest)) :=
  lv_if_le hexec hb hdg ht (fun h => kt (iNlt h)) (fun h => kf (iLt h))
/-- throw new E0(text), over the world as it was at the start -/
theorem gThrow {E0 text : String} {ik is ic sa : Nat} {bad : String → Prop} {Qc : Array Value → State → Outcome → State → Prop} (C : gCx p s m args meth c cc nL Ts own ret E A) (hst : l.stackTraces = false) (hO : gO E A s ws H locs) (hnt : ∀ x ∈ c.exceptionTable.toList, False) (hsize : ls.size = nL)
    (hcls : Bundle.fit E0 = true) (hk : (Cond.classLink own ik E0).before args s = true) (hini : (Cond.initialized E0).before args s = true) (hstr : vk_R own is text sa s) (hat : ∀ w ∈ vx_atS own ic E0 ["java/lang/RuntimeException", "java/lang/Exception"], w.before args s = true)
    (hgood : ∀ w ∈ Cond.classLink own ik E0 :: Cond.initialized E0 :: vx_atS own ic E0 ["java/lang/RuntimeException", "java/lang/Exception"], vx_ot w = true) (hb : bad E0)
    (d0 : decode cc pc = .ok (.new ik, 3)) (d3 : decode cc (pc + 3) = .ok (.dup, 1)) (d4 : decode cc (pc + 4) = .ok (.ldc is, 2)) (d6 : decode cc (pc + 6) = .ok (.invokespecial ic, 3)) (d9 : decode cc (pc + 9) = .ok (.athrow, 1))
    (hRframes : 5 < R.frames) (hRlocals : (rest.map fun v => v.category).sum + 82 ≤ R.locals) (hRcells : cells + 1 ≤ R.cells) (hRslots : slots + 6 ≤ R.slots) (h1 : cells + 1 ≤ mc) (h2 : slots + 6 ≤ ms) :
    W p l e R s m args below meth c H locs cells slots (vx_MQ below Qc (gXC E A bad ws) args s mc ms A) (F0 m pc ls rest) :=
  vx_throwS (names := ["java/lang/RuntimeException", "java/lang/Exception"]) (A := A) C.1 C.2.1 hst C.2.2.2.1 hcls (by decide +kernel) hk hini hstr hat hgood C.2.2.2.2.2.2.2.2.2.1 C.2.2.2.2.2.2.2.2.2.2 hO.2.2 (hsize.trans C.2.2.1.symm) d0 d3 d4 d6 d9 (fun x hx => (hnt x hx).elim) hRframes hRlocals hRcells hRslots C.2.2.2.2.2.2.1
    (fun t _ hz hk => ⟨(), trivial, ⟨hb, hO.1.kept (fun k q hq => hk q.1 ((hO.1 k q hq).lt)), hO.2.1⟩, ⟨Nat.le_trans hO.2.2.1 hz, fun q h1 h2 => (hk q (Nat.lt_of_lt_of_le h1 hO.2.2.1)).trans (hO.2.2.2.1 q h1 h2)⟩⟩) hO.2.2.2.2 h1 h2
theorem gXCall_i {r : Int32} {ok : Prop} {bad : String → Prop} (C : gCx p s m args meth c cc nL Ts own ret E A) (hO : gO E A s ws H locs) (hM : gXi l E y wl rm ws (.ref b :: As) ok r ws' bad mc ms) {ret1 : Option FieldType} (cw : CallW R s args own Cn index y bytes maxL ret1 wl rm mc ms n) (hrc : ∃ cell : Cell, H[b]? = some cell ∧ cell.vm.isStatics = false ∧ s.vm.findClass Cn = some cell.cls) (hn : As.length = n) (hsize : ls.size = nL) (hst : st0 = As.reverse ++ .ref b :: rest) (hW : (rest.map fun v => v.category).sum ≤ 8) (hdg : decode cc pc = .ok (.invokevirtual index, 3)) (hf : cells + mc ≤ R.cells ∧ slots + ms ≤ R.slots)
    (kx : ∀ (E0 : String) (ce : Cell) (q9 : Addr) (H1 : Heap) (locs1 : List Loc), gO E A s ws H1 locs1 → H1[q9]? = some ce → ce.vm = .none → s.vm.findClass E0 = some ce.cls → bad E0 → vx_W p l e R s m args below meth c H1 locs1 (cells + mc) (slots + ms) Q (F0 m pc ls rest) q9)
    (kk : ∀ (H1 : Heap) (locs1 : List Loc), gO E A s ws' H1 locs1 → ok → W p l e R s m args below meth c H1 locs1 (cells + mc) (slots + ms) Q (F0 m (pc + 3) ls (.int r :: rest))) : W p l e R s m args below meth c H locs cells slots Q (F0 m pc ls st0) := by
  refine vx_calli (vx_runV (As := As) (rest := rest) C.fix (hM H.size) cw ⟨gP_blind, hrc, fun U hU hW => gPre C hO hU hW _⟩ rfl hn hsize hst (lv_room hW) hdg hf) hO.2.2 (fun q _ h => gO.free C.2.2.2.2.2.2.2.2.1 hO q h) (gO.free C.2.2.2.2.2.2.2.2.1 hO) (fun q _ h => gO.free C.2.2.2.2.2.2.2.2.1 hO q h) (fun E0 ce q9 u t H1 locs1 ht hvm hpx hBX hz1 hk1 hS hce hcv hcl => ?_) (fun r1 u t H1 locs1 ht hvm hw hB hz1 hk1 hS => ?_)
  · exact kx E0 ce q9 H1 locs1 (gBack C hO ht hBX.2 hS) hce hcv hcl hBX.1
  · obtain ⟨hok, hw⟩ := hw
    subst hw
    exact kk H1 locs1 (gBack C hO ht hB hS) hok
theorem gXCall_v {ok : Prop} {bad : String → Prop} (C : gCx p s m args meth c cc nL Ts own ret E A) (hO : gO E A s ws H locs) (hM : gXv l E y wl rm ws (.ref b :: As) ok ws' bad mc ms) {ret1 : Option FieldType} (cw : CallW R s args own Cn index y bytes maxL ret1 wl rm mc ms n) (hrc : ∃ cell : Cell, H[b]? = some cell ∧ cell.vm.isStatics = false ∧ s.vm.findClass Cn = some cell.cls) (hn : As.length = n) (hsize : ls.size = nL) (hst : st0 = As.reverse ++ .ref b :: rest) (hW : (rest.map fun v => v.category).sum ≤ 8) (hdg : decode cc pc = .ok (.invokevirtual index, 3)) (hf : cells + mc ≤ R.cells ∧ slots + ms ≤ R.slots)
    (kx : ∀ (E0 : String) (ce : Cell) (q9 : Addr) (H1 : Heap) (locs1 : List Loc), gO E A s ws H1 locs1 → H1[q9]? = some ce → ce.vm = .none → s.vm.findClass E0 = some ce.cls → bad E0 → vx_W p l e R s m args below meth c H1 locs1 (cells + mc) (slots + ms) Q (F0 m pc ls rest) q9)
    (kk : ∀ (H1 : Heap) (locs1 : List Loc), gO E A s ws' H1 locs1 → ok → W p l e R s m args below meth c H1 locs1 (cells + mc) (slots + ms) Q (F0 m (pc + 3) ls rest)) : W p l e R s m args below meth c H locs cells slots Q (F0 m pc ls st0) := by
  refine vx_callv (vx_runV (As := As) (rest := rest) C.fix (hM H.size) cw ⟨gP_blind, hrc, fun U hU hW => gPre C hO hU hW _⟩ rfl hn hsize hst (lv_room hW) hdg hf) hO.2.2 (fun q _ h => gO.free C.2.2.2.2.2.2.2.2.1 hO q h) (gO.free C.2.2.2.2.2.2.2.2.1 hO) (fun q _ h => gO.free C.2.2.2.2.2.2.2.2.1 hO q h) (fun E0 ce q9 u t H1 locs1 ht hvm hpx hBX hz1 hk1 hS hce hcv hcl => ?_) (fun u t H1 locs1 ht hvm hw hB hz1 hk1 hS => ?_)
  · exact kx E0 ce q9 H1 locs1 (gBack C hO ht hBX.2 hS) hce hcv hcl hBX.1
  · exact kk H1 locs1 (gBack C hO ht hB hS) hw
theorem gXCallS_v {ok : Prop} {bad : String → Prop} (C : gCx p s m args meth c cc nL Ts own ret E A) (hO : gO E A s ws H locs) (hM : gXv l E y wl rm ws As ok ws' bad mc ms) {ret1 : Option FieldType} (cw : CallB R s args own index y bytes maxL ret1 wl rm mc ms n ∧ (Cond.static y).before args s = true) (hn : As.length = n) (hsize : ls.size = nL) (hst : st0 = As.reverse ++ rest) (hW : (rest.map fun v => v.category).sum ≤ 8) (hdg : decode cc pc = .ok (.invokestatic index, 3)) (hf : cells + mc ≤ R.cells ∧ slots + ms ≤ R.slots)
    (kx : ∀ (E0 : String) (ce : Cell) (q9 : Addr) (H1 : Heap) (locs1 : List Loc), gO E A s ws H1 locs1 → H1[q9]? = some ce → ce.vm = .none → s.vm.findClass E0 = some ce.cls → bad E0 → vx_W p l e R s m args below meth c H1 locs1 (cells + mc) (slots + ms) Q (F0 m pc ls rest) q9)
    (kk : ∀ (H1 : Heap) (locs1 : List Loc), gO E A s ws' H1 locs1 → ok → W p l e R s m args below meth c H1 locs1 (cells + mc) (slots + ms) Q (F0 m (pc + 3) ls rest)) : W p l e R s m args below meth c H locs cells slots Q (F0 m pc ls st0) := by
  refine vx_callv (vx_runS (As := As) (rest := rest) C.fix (hM H.size) cw ⟨gP_blind, fun U hU hW => gPre C hO hU hW _⟩ rfl hn hsize hst (lv_room hW) hdg hf) hO.2.2 (fun q _ h => gO.free C.2.2.2.2.2.2.2.2.1 hO q h) (gO.free C.2.2.2.2.2.2.2.2.1 hO) (fun q _ h => gO.free C.2.2.2.2.2.2.2.2.1 hO q h) (fun E0 ce q9 u t H1 locs1 ht hvm hpx hBX hz1 hk1 hS hce hcv hcl => ?_) (fun u t H1 locs1 ht hvm hw hB hz1 hk1 hS => ?_)
  · exact kx E0 ce q9 H1 locs1 (gBack C hO ht hBX.2 hS) hce hcv hcl hBX.1
  · exact kk H1 locs1 (gBack C hO ht hB hS) hw
-- WORLDS THAT GROW
theorem gO.new {W0 F : va_W} {x : Nat × va_E} (hO : gO E A s ((W0 ++ F) ++ [x]) H locs) : gO E A s (W0 ++ (x :: F)) H locs := by
  have h1 := hO.1.swap
  have h2 := hO.2.1.swap
  rw [List.append_assoc] at h1 h2
  exact ⟨h1, h2, hO.2.2⟩
theorem gO.drop {W0 F : va_W} {x : Nat × va_E} (hO : gO E A s (W0 ++ (x :: F)) H locs) : gO E A s (W0 ++ F) H locs := by
  have e : W0 ++ (x :: F) = (W0 ++ [x]) ++ F := by simp
  have h1 := hO.1
  have h2 := hO.2.1
  rw [e] at h1 h2
  have h3 := h1.swap
  have h4 := h2.swap
  refine ⟨h3.by id (fun k q hk => ?_), h4.by id (fun k q hk => ?_) (fun i j _ _ h => h), hO.2.2⟩
  · rw [id, List.getElem?_append_left (List.getElem?_eq_some_iff.mp hk).1]; exact hk
  · rw [id, List.getElem?_append_left (List.getElem?_eq_some_iff.mp hk).1]; exact hk
theorem gCls {ty : FieldType} {cA : ClassId} {tys : List (ClassId × FieldType)} (hK : va_K E.1 vwCl (tys ++ [(cA, ty)]) s) {k : Nat} {cB : ClassId} (hk : tys[k]? = some (cB, ty)) (hty : ∀ C, ty ≠ .object C) : cA = cB := by
  have hlt := (List.getElem?_eq_some_iff.mp hk).1
  have h1 := (hK.2 k (cB, ty) (by rw [List.getElem?_append_left hlt]; exact hk)).2
  have h2 := (hK.2 tys.length (cA, ty) (by simp)).2
  cases ty <;> first | exact absurd rfl (hty _) | (have q1 : s.vm.findClass _ = some cB := h1; have q2 : s.vm.findClass _ = some cA := h2; exact Option.some.inj (q2.symm.trans q1))
theorem gNewI {W0 F : va_W} {N9 : Nat} (C : gCx p s m args meth c cc nL Ts own ret E A) (harr : (Cond.arrayClass .int).before args s = true) (hO : gO E A s (W0 ++ F) H locs) (hN : N9 < 1000) (hcells : cells + 1 ≤ R.cells) (hslots : slots + N9 ≤ R.slots) (hdg : decode cc pc = .ok (.newarray .int, 2))
    (kk : ∀ (q : Nat) (H1 : Heap), gO E A s (W0 ++ ((q, .inl (eI E, N9, .inl (fun _ => 0))) :: F)) H1 locs → W p l e R s m args below meth c H1 locs (cells + 1) (slots + N9) Q (F0 m (pc + 2) ls (.ref q :: rest))) : W p l e R s m args below meth c H locs cells slots Q (F0 m pc ls (.int (nI N9) :: rest)) := by
  refine va_newa (a0 := (N9, .inl (fun _ => 0))) (N' := N9) (atype := .int) (ty := .int) C.1 C.2.1 harr rfl C.2.2.2.2.2.2.2.1.1 hO.1 hO.2.1 hO.2.2 C.2.2.2.2.2.2.2.2.1 (fun cA => rfl) (nI_pos (by omega)) (nI_clamp (by omega)) (by rw [show componentBytes FieldType.int = 4 from rfl]; omega) hcells hslots hdg (fun q cA H1 hK hP hD hS => ?_)
  have e := gCls (E := E) hK (k := 0) (cB := eI E) rfl (by intro C h; cases h)
  subst e
  exact kk q H1 (gO.new ⟨hP, hD, hS⟩)
theorem gNewZ {W0 F : va_W} {N9 : Nat} (C : gCx p s m args meth c cc nL Ts own ret E A) (harr : (Cond.arrayClass .boolean).before args s = true) (hO : gO E A s (W0 ++ F) H locs) (hN : N9 < 1000) (hcells : cells + 1 ≤ R.cells) (hslots : slots + N9 ≤ R.slots) (hdg : decode cc pc = .ok (.newarray .boolean, 2))
    (kk : ∀ (q : Nat) (H1 : Heap), gO E A s (W0 ++ ((q, .inl (eZ E, N9, .inl (fun _ => 0))) :: F)) H1 locs → W p l e R s m args below meth c H1 locs (cells + 1) (slots + N9) Q (F0 m (pc + 2) ls (.ref q :: rest))) : W p l e R s m args below meth c H locs cells slots Q (F0 m pc ls (.int (nI N9) :: rest)) := by
  refine va_newa (a0 := (N9, .inl (fun _ => 0))) (N' := N9) (atype := .boolean) (ty := .boolean) C.1 C.2.1 harr rfl C.2.2.2.2.2.2.2.1.1 hO.1 hO.2.1 hO.2.2 C.2.2.2.2.2.2.2.2.1 (fun cA => rfl) (nI_pos (by omega)) (nI_clamp (by omega)) (by rw [show componentBytes FieldType.boolean = 1 from rfl]; omega) hcells hslots hdg (fun q cA H1 hK hP hD hS => ?_)
  have e := gCls (E := E) hK (k := 1) (cB := eZ E) rfl (by intro C h; cases h)
  subst e
  exact kk q H1 (gO.new ⟨hP, hD, hS⟩)
end GD
end
section
/-- the state of a log, as both sides hold it: off key val sto n nx dr hr sc on said sh pc at hd ms kn -/
abbrev St : Type := (Nat → Int32) × (Nat → Int32) × (Nat → Int32) × (Nat → Int32) × Nat × Int32 × Int32 × Int32 × Nat × Int32 × (Nat → Int32) × Nat × (Nat → Int32) × (Nat → Int32) × (Nat → Int32) × (Nat → Int32) × (Nat → Nat → Int32)
abbrev s_off (S : St) : Nat → Int32 := S.1
abbrev s_key (S : St) : Nat → Int32 := S.2.1
abbrev s_val (S : St) : Nat → Int32 := S.2.2.1
abbrev s_sto (S : St) : Nat → Int32 := S.2.2.2.1
abbrev s_n (S : St) : Nat := S.2.2.2.2.1
abbrev s_nx (S : St) : Int32 := S.2.2.2.2.2.1
abbrev s_dr (S : St) : Int32 := S.2.2.2.2.2.2.1
abbrev s_hr (S : St) : Int32 := S.2.2.2.2.2.2.2.1
abbrev s_sc (S : St) : Nat := S.2.2.2.2.2.2.2.2.1
abbrev s_on (S : St) : Int32 := S.2.2.2.2.2.2.2.2.2.1
abbrev s_said (S : St) : Nat → Int32 := S.2.2.2.2.2.2.2.2.2.2.1
abbrev s_sh (S : St) : Nat := S.2.2.2.2.2.2.2.2.2.2.2.1
abbrev s_pc (S : St) : Nat → Int32 := S.2.2.2.2.2.2.2.2.2.2.2.2.1
abbrev s_at (S : St) : Nat → Int32 := S.2.2.2.2.2.2.2.2.2.2.2.2.2.1
abbrev s_hd (S : St) : Nat → Int32 := S.2.2.2.2.2.2.2.2.2.2.2.2.2.2.1
abbrev s_ms (S : St) : Nat → Int32 := S.2.2.2.2.2.2.2.2.2.2.2.2.2.2.2.1
abbrev s_kn (S : St) : Nat → Nat → Int32 := S.2.2.2.2.2.2.2.2.2.2.2.2.2.2.2.2
abbrev mkS (off key val sto : Nat → Int32) (n : Nat) (nx dr hr : Int32) (sc : Nat) (on : Int32) (said : Nat → Int32) (sh : Nat) (pc sat hd ms : Nat → Int32) (kn : Nat → Nat → Int32) : St := (off, key, val, sto, n, nx, dr, hr, sc, on, said, sh, pc, sat, hd, ms, kn)
/-- the row of the ships -/
def xFl (a : Nat → Nat) : Nat → Option Nat := fun i => if i < 6 then some (a (11 + i)) else none
/-- the cells of the class: 0 the log itself, 1 its Log, 2 - 6 the Log's rows, 7 saidInStorm, 8 fleet, 9 - 10 the rows of a replay, 11 - 16 ships, 17 - 22 what they know -/
def xW (E : gE) (a : Nat → Nat) (S : St) (mk rk rv : Nat → Int32) : va_W :=
  [(a 0, .inr (2, [.ref (a 1), .ref (a 7), .ref (a 8), .ref (a 9), .ref (a 10), .int (s_hr S), .int (nI (s_sc S)), .int (s_on S), .int (nI (s_sh S))])),
   (a 1, .inr (0, [.ref (a 2), .ref (a 3), .ref (a 4), .ref (a 5), .ref (a 6), .int (nI (s_n S)), .int (s_nx S), .int (s_dr S)])),
   (a 2, .inl (eI E, 48, .inl (s_off S))), (a 3, .inl (eI E, 48, .inl (s_key S))), (a 4, .inl (eI E, 48, .inl (s_val S))), (a 5, .inl (eI E, 48, .inl (s_sto S))), (a 6, .inl (eZ E, 48, .inl mk)),
   (a 7, .inl (eI E, 8, .inl (s_said S))), (a 8, .inl (eO E, 6, .inr (.inr (.inr (.inr (xFl a)))))), (a 9, .inl (eI E, 48, .inl rk)), (a 10, .inl (eI E, 48, .inl rv)),
   (a 11, .inr (1, [.ref (a 17), .int (s_pc S 0), .int (s_at S 0), .int (s_hd S 0), .int (s_ms S 0)])), (a 12, .inr (1, [.ref (a 18), .int (s_pc S 1), .int (s_at S 1), .int (s_hd S 1), .int (s_ms S 1)])), (a 13, .inr (1, [.ref (a 19), .int (s_pc S 2), .int (s_at S 2), .int (s_hd S 2), .int (s_ms S 2)])),
   (a 14, .inr (1, [.ref (a 20), .int (s_pc S 3), .int (s_at S 3), .int (s_hd S 3), .int (s_ms S 3)])), (a 15, .inr (1, [.ref (a 21), .int (s_pc S 4), .int (s_at S 4), .int (s_hd S 4), .int (s_ms S 4)])), (a 16, .inr (1, [.ref (a 22), .int (s_pc S 5), .int (s_at S 5), .int (s_hd S 5), .int (s_ms S 5)])),
   (a 17, .inl (eI E, 10, .inl (s_kn S 0))), (a 18, .inl (eI E, 10, .inl (s_kn S 1))), (a 19, .inl (eI E, 10, .inl (s_kn S 2))), (a 20, .inl (eI E, 10, .inl (s_kn S 3))), (a 21, .inl (eI E, 10, .inl (s_kn S 4))), (a 22, .inl (eI E, 10, .inl (s_kn S 5)))]
/-- the cells of the reference: 0 itself, 1 - 5 its rows, 6 said, 7 pace, 8 at, 9 heard, 10 missed, 11 known -/
def mKn (kn : Nat → Nat → Int32) : Nat → Int32 := fun j => kn (j / 10) (j % 10)
def mW (E : gE) (b : Nat → Nat) (S : St) (th : Int32) (mk : Nat → Int32) : va_W :=
  [(b 0, .inr (3, [.int th, .int (nI (s_n S)), .ref (b 1), .ref (b 2), .ref (b 3), .ref (b 4), .ref (b 5), .int (s_nx S), .int (s_dr S), .int (s_hr S), .int (nI (s_sc S)), .int (s_on S), .ref (b 6), .int (nI (s_sh S)), .ref (b 7), .ref (b 8), .ref (b 9), .ref (b 10), .ref (b 11)])),
   (b 1, .inl (eI E, 48, .inl (s_off S))), (b 2, .inl (eI E, 48, .inl (s_key S))), (b 3, .inl (eI E, 48, .inl (s_val S))), (b 4, .inl (eI E, 48, .inl (s_sto S))), (b 5, .inl (eZ E, 48, .inl mk)),
   (b 6, .inl (eI E, 8, .inl (s_said S))), (b 7, .inl (eI E, 6, .inl (s_pc S))), (b 8, .inl (eI E, 6, .inl (s_at S))), (b 9, .inl (eI E, 6, .inl (s_hd S))), (b 10, .inl (eI E, 6, .inl (s_ms S))), (b 11, .inl (eI E, 60, .inl (mKn (s_kn S))))]
section WX
variable {E : gE} {a : Nat → Nat} {S : St} {mk rk rv : Nat → Int32} {F : va_W}
theorem six {P : Nat → Prop} (h0 : P 0) (h1 : P 1) (h2 : P 2) (h3 : P 3) (h4 : P 4) (h5 : P 5) {i : Nat} (hi : i < 6) : P i := by
  rcases (show i = 0 ∨ i = 1 ∨ i = 2 ∨ i = 3 ∨ i = 4 ∨ i = 5 by omega) with rfl | rfl | rfl | rfl | rfl | rfl <;> assumption
theorem xFl_at {i : Nat} (hi : i < 6) : xFl a i = some (a (11 + i)) := by simp [xFl, hi]
/-- ship i -/
theorem xw_ship {i : Nat} (hi : i < 6) : (xW E a S mk rk rv ++ F)[11 + i]? = some (a (11 + i), .inr (1, [.ref (a (17 + i)), .int (s_pc S i), .int (s_at S i), .int (s_hd S i), .int (s_ms S i)])) :=
  six (P := fun i => (xW E a S mk rk rv ++ F)[11 + i]? = some (a (11 + i), .inr (1, [.ref (a (17 + i)), .int (s_pc S i), .int (s_at S i), .int (s_hd S i), .int (s_ms S i)]))) rfl rfl rfl rfl rfl rfl hi
theorem xw_kn {i : Nat} (hi : i < 6) : (xW E a S mk rk rv ++ F)[17 + i]? = some (a (17 + i), .inl (eI E, 10, .inl (s_kn S i))) :=
  six (P := fun i => (xW E a S mk rk rv ++ F)[17 + i]? = some (a (17 + i), .inl (eI E, 10, .inl (s_kn S i)))) rfl rfl rfl rfl rfl rfl hi
abbrev S_pc (S : St) (v : Nat → Int32) : St := mkS (s_off S) (s_key S) (s_val S) (s_sto S) (s_n S) (s_nx S) (s_dr S) (s_hr S) (s_sc S) (s_on S) (s_said S) (s_sh S) v (s_at S) (s_hd S) (s_ms S) (s_kn S)
abbrev S_at (S : St) (v : Nat → Int32) : St := mkS (s_off S) (s_key S) (s_val S) (s_sto S) (s_n S) (s_nx S) (s_dr S) (s_hr S) (s_sc S) (s_on S) (s_said S) (s_sh S) (s_pc S) v (s_hd S) (s_ms S) (s_kn S)
abbrev S_hd (S : St) (v : Nat → Int32) : St := mkS (s_off S) (s_key S) (s_val S) (s_sto S) (s_n S) (s_nx S) (s_dr S) (s_hr S) (s_sc S) (s_on S) (s_said S) (s_sh S) (s_pc S) (s_at S) v (s_ms S) (s_kn S)
abbrev S_ms (S : St) (v : Nat → Int32) : St := mkS (s_off S) (s_key S) (s_val S) (s_sto S) (s_n S) (s_nx S) (s_dr S) (s_hr S) (s_sc S) (s_on S) (s_said S) (s_sh S) (s_pc S) (s_at S) (s_hd S) v (s_kn S)
abbrev S_kn (S : St) (v : Nat → Nat → Int32) : St := mkS (s_off S) (s_key S) (s_val S) (s_sto S) (s_n S) (s_nx S) (s_dr S) (s_hr S) (s_sc S) (s_on S) (s_said S) (s_sh S) (s_pc S) (s_at S) (s_hd S) (s_ms S) v
theorem xs_pc {i : Nat} (hi : i < 6) (v : Int32) : (xW E a S mk rk rv ++ F).set (11 + i) (a (11 + i), .inr (1, [.ref (a (17 + i)), .int v, .int (s_at S i), .int (s_hd S i), .int (s_ms S i)])) = xW E a (S_pc S (upd (s_pc S) i v)) mk rk rv ++ F :=
  six (P := fun i => (xW E a S mk rk rv ++ F).set (11 + i) (a (11 + i), .inr (1, [.ref (a (17 + i)), .int v, .int (s_at S i), .int (s_hd S i), .int (s_ms S i)])) = xW E a (S_pc S (upd (s_pc S) i v)) mk rk rv ++ F) rfl rfl rfl rfl rfl rfl hi
theorem xs_at {i : Nat} (hi : i < 6) (v : Int32) : (xW E a S mk rk rv ++ F).set (11 + i) (a (11 + i), .inr (1, [.ref (a (17 + i)), .int (s_pc S i), .int v, .int (s_hd S i), .int (s_ms S i)])) = xW E a (S_at S (upd (s_at S) i v)) mk rk rv ++ F :=
  six (P := fun i => (xW E a S mk rk rv ++ F).set (11 + i) (a (11 + i), .inr (1, [.ref (a (17 + i)), .int (s_pc S i), .int v, .int (s_hd S i), .int (s_ms S i)])) = xW E a (S_at S (upd (s_at S) i v)) mk rk rv ++ F) rfl rfl rfl rfl rfl rfl hi
theorem xs_hd {i : Nat} (hi : i < 6) (v : Int32) : (xW E a S mk rk rv ++ F).set (11 + i) (a (11 + i), .inr (1, [.ref (a (17 + i)), .int (s_pc S i), .int (s_at S i), .int v, .int (s_ms S i)])) = xW E a (S_hd S (upd (s_hd S) i v)) mk rk rv ++ F :=
  six (P := fun i => (xW E a S mk rk rv ++ F).set (11 + i) (a (11 + i), .inr (1, [.ref (a (17 + i)), .int (s_pc S i), .int (s_at S i), .int v, .int (s_ms S i)])) = xW E a (S_hd S (upd (s_hd S) i v)) mk rk rv ++ F) rfl rfl rfl rfl rfl rfl hi
theorem xs_ms {i : Nat} (hi : i < 6) (v : Int32) : (xW E a S mk rk rv ++ F).set (11 + i) (a (11 + i), .inr (1, [.ref (a (17 + i)), .int (s_pc S i), .int (s_at S i), .int (s_hd S i), .int v])) = xW E a (S_ms S (upd (s_ms S) i v)) mk rk rv ++ F :=
  six (P := fun i => (xW E a S mk rk rv ++ F).set (11 + i) (a (11 + i), .inr (1, [.ref (a (17 + i)), .int (s_pc S i), .int (s_at S i), .int (s_hd S i), .int v])) = xW E a (S_ms S (upd (s_ms S) i v)) mk rk rv ++ F) rfl rfl rfl rfl rfl rfl hi
theorem xs_kn {i : Nat} (hi : i < 6) (g : Nat → Int32) : (xW E a S mk rk rv ++ F).set (17 + i) (a (17 + i), .inl (eI E, 10, .inl g)) = xW E a (S_kn S (va_up (s_kn S) i g)) mk rk rv ++ F :=
  six (P := fun i => (xW E a S mk rk rv ++ F).set (17 + i) (a (17 + i), .inl (eI E, 10, .inl g)) = xW E a (S_kn S (va_up (s_kn S) i g)) mk rk rv ++ F) rfl rfl rfl rfl rfl rfl hi
theorem mKn_upd {kn : Nat → Nat → Int32} {i k : Nat} (hk : k < 10) (v : Int32) : upd (mKn kn) (10 * i + k) v = mKn (va_up kn i (upd (kn i) k v)) := by
  funext j
  have h1 : (10 * i + k) / 10 = i := by omega
  have h2 : (10 * i + k) % 10 = k := by omega
  by_cases h : j = 10 * i + k
  · subst h
    simp [upd, mKn, va_up, h1, h2]
  · by_cases hi : j / 10 = i
    · have hk2 : j % 10 ≠ k := by omega
      simp [upd, mKn, va_up, h, hi, hk2]
    · simp [upd, mKn, va_up, h, hi]
theorem mKn_at {kn : Nat → Nat → Int32} {i k : Nat} (hk : k < 10) : mKn kn (10 * i + k) = kn i k := by
  have h1 : (10 * i + k) / 10 = i := by omega
  have h2 : (10 * i + k) % 10 = k := by omega
  simp [mKn, h1, h2]
end WX
end
section
/-- the place of the first of f entries from k on that is not less than o -/
def pfA (off : Nat → Int32) (o : Int32) : Nat → Nat → Nat
  | 0, k => k
  | f + 1, k => if off k < o then pfA off o f (k + 1) else k
def pf (off : Nat → Int32) (o : Int32) (n : Nat) : Nat := pfA off o n 0
theorem pfA_le (off : Nat → Int32) (o : Int32) : ∀ f k, pfA off o f k ≤ k + f := by
  intro f
  induction f with
  | zero => intro k; exact Nat.le_refl _
  | succ f ih =>
    intro k
    unfold pfA
    split
    · have := ih (k + 1); omega
    · omega
theorem pfA_ge (off : Nat → Int32) (o : Int32) : ∀ f k, k ≤ pfA off o f k := by
  intro f
  induction f with
  | zero => intro k; exact Nat.le_refl _
  | succ f ih =>
    intro k
    unfold pfA
    split
    · have := ih (k + 1); omega
    · omega
theorem pfA_lt (off : Nat → Int32) (o : Int32) : ∀ f k j, k ≤ j → j < pfA off o f k → off j < o := by
  intro f
  induction f with
  | zero => intro k j h1 h2; exact absurd h2 (by simp only [pfA]; omega)
  | succ f ih =>
    intro k j h1 h2
    unfold pfA at h2
    split at h2
    · rename_i hc
      by_cases hj : j = k
      · subst hj; exact hc
      · exact ih (k + 1) j (by omega) h2
    · omega
theorem pfA_stop (off : Nat → Int32) (o : Int32) : ∀ f k, pfA off o f k < k + f → ¬ off (pfA off o f k) < o := by
  intro f
  induction f with
  | zero => intro k h; exact absurd h (by simp only [pfA]; omega)
  | succ f ih =>
    intro k h
    unfold pfA at h ⊢
    split
    · rename_i hc
      rw [if_pos hc] at h
      exact ih (k + 1) (by omega)
    · assumption
theorem pf_le (off : Nat → Int32) (o : Int32) (n : Nat) : pf off o n ≤ n := by have := pfA_le off o n 0; unfold pf; omega
theorem pf_lt {off : Nat → Int32} {o : Int32} {n j : Nat} (h : j < pf off o n) : off j < o := pfA_lt off o n 0 j (Nat.zero_le _) h
theorem pf_stop {off : Nat → Int32} {o : Int32} {n : Nat} (h : pf off o n < n) : ¬ off (pf off o n) < o := by have := pfA_stop off o n 0; unfold pf at h ⊢; exact this (by omega)
/-- the last place with this key, not less than fr and less than t -/
def lpO (key : Nat → Int32) (k : Int32) (fr : Nat) : Nat → Option Nat
  | 0 => none
  | t + 1 => if fr ≤ t then (if key t = k then some t else lpO key k fr t) else none
def oI : Option Nat → Int32
  | none => -1
  | some i => nI i
theorem lpO_some {key : Nat → Int32} {k : Int32} {fr : Nat} : ∀ {t i : Nat}, lpO key k fr t = some i → fr ≤ i ∧ i < t ∧ key i = k := by
  intro t
  induction t with
  | zero => intro i h; cases h
  | succ t ih =>
    intro i h
    unfold lpO at h
    split at h
    · split at h
      · cases h; exact ⟨by assumption, by omega, by assumption⟩
      · obtain ⟨h1, h2, h3⟩ := ih h; exact ⟨h1, by omega, h3⟩
    · cases h
theorem lpO_none {key : Nat → Int32} {k : Int32} {fr : Nat} : ∀ {t : Nat}, lpO key k fr t = none → ∀ i, fr ≤ i → i < t → key i ≠ k := by
  intro t
  induction t with
  | zero => intro _ i _ h; omega
  | succ t ih =>
    intro h i h1 h2
    unfold lpO at h
    split at h
    · split at h
      · cases h
      · by_cases hi : i = t
        · subst hi; assumption
        · exact ih h i h1 (by omega)
    · omega
theorem lpO_ge {key : Nat → Int32} {k : Int32} {fr t : Nat} (h : t ≤ fr) : lpO key k fr t = none := by
  cases t with
  | zero => rfl
  | succ t => unfold lpO; rw [if_neg (by omega)]
theorem oI_ne {o : Option Nat} (h : ∀ i, o = some i → i < 1000000) : (oI o = -1) ↔ o = none := by
  cases o with
  | none => exact ⟨fun _ => rfl, fun _ => rfl⟩
  | some i =>
    refine ⟨fun h1 => ?_, fun h1 => by cases h1⟩
    have h2 := nI_pos (n := i) (by have := h i rfl; omega)
    have h3 : oI (some i) = nI i := rfl
    rw [h3] at h1
    rw [h1] at h2
    exact absurd (by decide) h2
/-- how many of the first i entries are x -/
def cnt (f : Nat → Int32) (x : Int32) : Nat → Nat
  | 0 => 0
  | i + 1 => cnt f x i + (if f i = x then 1 else 0)
theorem cnt_le (f : Nat → Int32) (x : Int32) : ∀ i, cnt f x i ≤ i := by
  intro i
  induction i with
  | zero => exact Nat.le_refl _
  | succ i ih => unfold cnt; split <;> omega
/-- how many of the entries from fr on, of the first i, are marked -/
def cm (mk : Nat → Int32) (fr : Nat) : Nat → Nat
  | 0 => 0
  | i + 1 => cm mk fr i + (if fr ≤ i ∧ ¬ mk i = 0 then 1 else 0)
theorem cm_le (mk : Nat → Int32) (fr : Nat) : ∀ i, cm mk fr i ≤ i := by
  intro i
  induction i with
  | zero => exact Nat.le_refl _
  | succ i ih => unfold cm; split <;> omega
theorem cm_fr (mk : Nat → Int32) (fr : Nat) : ∀ i, i ≤ fr → cm mk fr i = 0 := by
  intro i
  induction i with
  | zero => intro _; rfl
  | succ i ih => intro h; unfold cm; rw [ih (by omega), if_neg (by omega)]
/-- the rows behind a drop of all that is marked -/
def cpN (mk : Nat → Int32) : Nat → Nat
  | 0 => 0
  | i + 1 => if mk i = 0 then cpN mk i + 1 else cpN mk i
def cpF (mk : Nat → Int32) (f : Nat → Int32) : Nat → (Nat → Int32)
  | 0 => f
  | i + 1 => if mk i = 0 then upd (cpF mk f i) (cpN mk i) (cpF mk f i i) else cpF mk f i
theorem cpN_le (mk : Nat → Int32) : ∀ i, cpN mk i ≤ i := by
  intro i
  induction i with
  | zero => exact Nat.le_refl _
  | succ i ih => unfold cpN; split <;> omega
theorem cpF_ge (mk f : Nat → Int32) : ∀ i j, cpN mk i ≤ j → i ≤ j → cpF mk f i j = f j := by
  intro i
  induction i with
  | zero => intro j _ _; rfl
  | succ i ih =>
    intro j h1 h2
    unfold cpF
    have := cpN_le mk i
    split
    · rw [upd, if_neg (by omega)]; exact ih j (by omega) (by omega)
    · exact ih j (by omega) (by omega)
/-- g in the first n places, mk behind them -/
def mkU (g mk : Nat → Int32) (n : Nat) : Nat → Int32 := fun i => if i < n then g i else mk i
theorem mkU_0 (g mk : Nat → Int32) : mkU g mk 0 = mk := by funext i; simp [mkU]
theorem mkU_s (g mk : Nat → Int32) (n : Nat) : upd (mkU g mk n) n (g n) = mkU g mk (n + 1) := by
  funext i
  unfold upd mkU
  by_cases h : i = n
  · subst h; simp
  · by_cases h2 : i < n
    · simp [h, h2, Nat.lt_succ_of_lt h2]
    · have h3 : ¬ i < n + 1 := by omega
      simp [h, h2, h3]
theorem mkU_at {g mk : Nat → Int32} {n i : Nat} (h : i < n) : mkU g mk n i = g i := by simp [mkU, h]
def gFirst : Nat → Int32 := fun i => if i = 0 then 1 else 0
def gAhead (off : Nat → Int32) (o : Int32) : Nat → Int32 := fun i => if off i < o then 1 else 0
def gComp (off key val : Nat → Int32) (n : Nat) (least : Int32) : Nat → Int32 := fun i => if lpO key (key i) (i + 1) n ≠ none ∨ (val i = 0 ∧ off i < least) then 1 else 0
/-- the least of nx and the offsets of the first s ships -/
def lst (sat : Nat → Int32) (nx : Int32) : Nat → Int32
  | 0 => nx
  | s + 1 => if sat s < lst sat nx s then sat s else lst sat nx s
def s_cm (S : St) : Nat → Int32 := gComp (s_off S) (s_key S) (s_val S) (s_n S) (lst (s_at S) (s_nx S) (s_sh S))
abbrev S_app (S : St) (k v t : Int32) : St := mkS (upd (s_off S) (s_n S) (s_nx S)) (upd (s_key S) (s_n S) k) (upd (s_val S) (s_n S) v) (upd (s_sto S) (s_n S) t) (s_n S + 1) (s_nx S + 1) (s_dr S) (s_hr S) (s_sc S) (s_on S) (s_said S) (s_sh S) (s_pc S) (s_at S) (s_hd S) (s_ms S) (s_kn S)
/-- the rows behind removing what is marked -/
abbrev S_rem (S : St) (mk : Nat → Int32) : St := mkS (cpF mk (s_off S) (s_n S)) (cpF mk (s_key S) (s_n S)) (cpF mk (s_val S) (s_n S)) (cpF mk (s_sto S) (s_n S)) (cpN mk (s_n S)) (s_nx S) (s_dr S + nI (s_n S - cpN mk (s_n S))) (s_hr S) (s_sc S) (s_on S) (s_said S) (s_sh S) (s_pc S) (s_at S) (s_hd S) (s_ms S) (s_kn S)
abbrev s_lo (S : St) (k : Int32) : Int32 := match lpO (s_key S) k 0 (s_n S) with | none => -1 | some i => s_off S i
abbrev s_wv (S : St) (k : Int32) : Int32 := match lpO (s_key S) k 0 (s_n S) with | none => 0 | some i => s_val S i
end
section
theorem mkU_sv {g mk : Nat → Int32} {n : Nat} {x : Int32} (h : g n = x) : mkU g mk (n + 1) = upd (mkU g mk n) n x := by rw [← mkU_s, h]
theorem nI_z {n : Nat} (hn : n < 1000000) (h : nI n = 0) : n = 0 := by
  have h2 : nI n = nI 0 := h
  exact (nI_eq (by omega) (by omega)).mp h2
theorem nI_p {t : Nat} (h : 0 < t) : nI t - 1 = nI (t - 1) := by
  obtain ⟨u, rfl⟩ : ∃ u, t = u + 1 := ⟨t - 1, by omega⟩
  rw [nI_pred]
  rfl
theorem iDec (x : Int32) : x + Int32.ofInt (-1) = x - 1 := by
  rw [Int32.sub_eq_add_neg]
  rfl
theorem lpO_s {key : Nat → Int32} {k : Int32} {fr t : Nat} (h : fr < t) : lpO key k fr t = if key (t - 1) = k then some (t - 1) else lpO key k fr (t - 1) := by
  obtain ⟨u, rfl⟩ : ∃ u, t = u + 1 := ⟨t - 1, by omega⟩
  show (if fr ≤ u then _ else _) = _
  rw [if_pos (by omega)]
  rfl
theorem lpO_ls {key : Nat → Int32} {k : Int32} {fr t : Nat} (hf : fr < 1000000) (ht : t < 1000000) : nI t - 1 < nI fr ↔ t ≤ fr := by
  by_cases h : 0 < t
  · rw [nI_p h, nI_ltI (by omega) (by omega)]; omega
  · have : t = 0 := by omega
    subst this
    refine ⟨fun _ => Nat.zero_le _, fun _ => ?_⟩
    rw [show nI 0 - 1 = (-1 : Int32) from rfl, Int32.lt_iff_toInt_lt, nI_toInt (by omega)]
    have : (-1 : Int32).toInt = -1 := rfl
    omega
theorem lpO_h {key : Nat → Int32} {k : Int32} {fr t : Nat} {o : Option Nat} (hn : lpO key k fr t = o) : o = none ∨ ∃ i, o = some i ∧ fr ≤ i ∧ i < t ∧ key i = k := by
  cases o with
  | none => exact Or.inl rfl
  | some i => exact Or.inr ⟨i, rfl, lpO_some hn⟩
theorem lpO_m1 {key : Nat → Int32} {k : Int32} {fr t : Nat} (ht : t < 1000000) (h : oI (lpO key k fr t) = -1) : lpO key k fr t = none := (oI_ne (fun i hi => by have := lpO_some hi; omega)).mp h
theorem lpO_nm1 {key : Nat → Int32} {k : Int32} {fr t : Nat} (h : ¬ oI (lpO key k fr t) = -1) : ∃ i, lpO key k fr t = some i ∧ fr ≤ i ∧ i < t ∧ key i = k := by
  rcases lpO_h (rfl : lpO key k fr t = _) with h1 | ⟨i, h1, h2⟩
  · rw [h1] at h; exact absurd rfl h
  · exact ⟨i, h1, h2⟩
/-- the rows of what a replay says again -/
def flF (f sto : Nat → Int32) (x : Int32) (g : Nat → Int32) : Nat → (Nat → Int32)
  | 0 => g
  | i + 1 => if sto i = x then upd (flF f sto x g i) (cnt sto x i) (f i) else flF f sto x g i
theorem flF_eq (f sto : Nat → Int32) (x : Int32) (g g' : Nat → Int32) : ∀ n i, i < cnt sto x n → flF f sto x g n i = flF f sto x g' n i := by
  intro n
  induction n with
  | zero => intro i h; exact absurd h (Nat.not_lt_zero _)
  | succ n ih =>
    intro i h
    unfold flF
    unfold cnt at h
    split
    · rename_i hc
      rw [if_pos hc] at h
      by_cases hi : i = cnt sto x n
      · simp [upd, hi]
      · simp only [upd, if_neg hi]
        exact ih i (by omega)
    · rename_i hc
      rw [if_neg hc] at h
      exact ih i (by omega)
theorem cnt_s1 {f : Nat → Int32} {x : Int32} {i : Nat} (h : f i = x) : cnt f x (i + 1) = cnt f x i + 1 := by show cnt f x i + _ = _; rw [if_pos h]
theorem cnt_s0 {f : Nat → Int32} {x : Int32} {i : Nat} (h : ¬ f i = x) : cnt f x (i + 1) = cnt f x i := by show cnt f x i + _ = _; rw [if_neg h]; rfl
theorem cm_s1 {mk : Nat → Int32} {fr i : Nat} (hf : fr ≤ i) (h : ¬ mk i = 0) : cm mk fr (i + 1) = cm mk fr i + 1 := by show cm mk fr i + _ = _; rw [if_pos ⟨hf, h⟩]
theorem cm_s0 {mk : Nat → Int32} {fr i : Nat} (h : mk i = 0) : cm mk fr (i + 1) = cm mk fr i := by show cm mk fr i + _ = _; rw [if_neg (fun q => q.2 h)]; rfl
theorem cp_s1 {mk : Nat → Int32} {i : Nat} (h : mk i = 0) : cpN mk (i + 1) = cpN mk i + 1 := by show (if _ then _ else _) = _; rw [if_pos h]
theorem cp_s0 {mk : Nat → Int32} {i : Nat} (h : ¬ mk i = 0) : cpN mk (i + 1) = cpN mk i := by show (if _ then _ else _) = _; rw [if_neg h]
theorem cf_s1 {mk f : Nat → Int32} {i : Nat} (h : mk i = 0) : cpF mk f (i + 1) = upd (cpF mk f i) (cpN mk i) (cpF mk f i i) := by show (if _ then _ else _) = _; rw [if_pos h]
theorem cf_s0 {mk f : Nat → Int32} {i : Nat} (h : ¬ mk i = 0) : cpF mk f (i + 1) = cpF mk f i := by show (if _ then _ else _) = _; rw [if_neg h]
theorem fl_s1 {f sto g : Nat → Int32} {x : Int32} {i : Nat} (h : sto i = x) : flF f sto x g (i + 1) = upd (flF f sto x g i) (cnt sto x i) (f i) := by show (if _ then _ else _) = _; rw [if_pos h]
theorem fl_s0 {f sto g : Nat → Int32} {x : Int32} {i : Nat} (h : ¬ sto i = x) : flF f sto x g (i + 1) = flF f sto x g i := by show (if _ then _ else _) = _; rw [if_neg h]
theorem gComp_1 {off key val : Nat → Int32} {n i : Nat} {q : Int32} (h : lpO key (key i) (i + 1) n ≠ none ∨ (val i = 0 ∧ off i < q)) : gComp off key val n q i = 1 := if_pos h
theorem gComp_0 {off key val : Nat → Int32} {n i : Nat} {q : Int32} (h : ¬ (lpO key (key i) (i + 1) n ≠ none ∨ (val i = 0 ∧ off i < q))) : gComp off key val n q i = 0 := if_neg h
/-- the place of the phrase with the offset o -/
def s_po (S : St) (o : Int32) : Option Nat := if pf (s_off S) o (s_n S) < s_n S ∧ s_off S (pf (s_off S) o (s_n S)) = o then some (pf (s_off S) o (s_n S)) else none
theorem s_po_1 {S : St} {o : Int32} (h1 : pf (s_off S) o (s_n S) < s_n S) (h2 : s_off S (pf (s_off S) o (s_n S)) = o) : s_po S o = some (pf (s_off S) o (s_n S)) := if_pos ⟨h1, h2⟩
theorem s_po_0 {S : St} {o : Int32} (h : ¬ (pf (s_off S) o (s_n S) < s_n S ∧ s_off S (pf (s_off S) o (s_n S)) = o)) : s_po S o = none := if_neg h
theorem s_po_lt {S : St} {o : Int32} {i : Nat} (h : s_po S o = some i) : i < s_n S := by
  unfold s_po at h
  split at h
  · rename_i hc; cases h; exact hc.1
  · cases h
/-- what a ship hears: from fr on, d phrases -/
def hk (key val : Nat → Int32) (fr : Nat) (k0 : Nat → Int32) : Nat → (Nat → Int32)
  | 0 => k0
  | d + 1 => upd (hk key val fr k0 d) (key (fr + d)).toNatClampNeg (val (fr + d))
/-- the keys that are kept count, up to 9 -/
def s_ok (S : St) : Prop := ∀ i, i < s_n S → (s_key S i).toNatClampNeg < 10 ∧ s_key S i = nI (s_key S i).toNatClampNeg
end
section
set_option maxHeartbeats 4000000 in
set_option maxRecDepth 100000 in
theorem c_X0_append (l : Launch) (E : gE) (a : Nat → Nat) (S : St) (mk rk rv : Nat → Int32) (F : va_W) (k v t : Int32) (hn : s_n S < 48) : gMi l E yX0_append wsX0_append ({ frames := 0, cells := 0, slots := 0, locals := 0 }) (xW E a S mk rk rv ++ F) [.ref (a 1), .int k, .int v, .int t] (s_nx S) (xW E a (S_app S k v t) mk rk rv ++ F) 0 0 := by
  refine gMi.of (cc := cX0_append) (maxL := 4) (ty := .int) (by decide) rfl (Nat.le_of_ble_eq_true rfl) ?_
  intro p e s m args below meth c A C ls hl hO
  have hl : lv_has ls 4 [(0, .ref (a 1)), (1, .int k), (2, .int v), (3, .int t)] := hl
  have iX0 : ∀ w ∈ u_ws RX0 TX0 8, w ∈ wsX0_append := by decide +kernel
  have w9 : Cond.fieldLink RX0 9 "ParrotLog$Log" "offsets" "[I" ∈ wsX0_append := by decide +kernel
  have w28 : Cond.fieldLink RX0 28 "ParrotLog$Log" "size" "I" ∈ wsX0_append := by decide +kernel
  have w32 : Cond.fieldLink RX0 32 "ParrotLog$Log" "next" "I" ∈ wsX0_append := by decide +kernel
  have w15 : Cond.fieldLink RX0 15 "ParrotLog$Log" "keys" "[I" ∈ wsX0_append := by decide +kernel
  have w18 : Cond.fieldLink RX0 18 "ParrotLog$Log" "values" "[I" ∈ wsX0_append := by decide +kernel
  have w21 : Cond.fieldLink RX0 21 "ParrotLog$Log" "stormNumbers" "[I" ∈ wsX0_append := by decide +kernel
  refine lv_aload_n C.1 C.2.1 dX0_append_0 rfl (lv_at hl 0 rfl) ?_
  refine gGet (v := .ref (a 2)) (ref := RX0) (Cn := RX0) (T := TX0) (N := 8) C iX0 hO 1 rfl rfl 0 (by decide) w9 (fun _ h9 => h9) rfl dX0_append_1 ?_
  refine lv_aload_n C.1 C.2.1 dX0_append_4 rfl (lv_at hl 0 rfl) ?_
  refine gGet (v := .int (nI (s_n S))) (ref := RX0) (Cn := RX0) (T := TX0) (N := 8) C iX0 hO 1 rfl rfl 5 (by decide) w28 (fun _ h9 => h9) rfl dX0_append_5 ?_
  refine lv_aload_n C.1 C.2.1 dX0_append_8 rfl (lv_at hl 0 rfl) ?_
  refine gGet (v := .int (s_nx S)) (ref := RX0) (Cn := RX0) (T := TX0) (N := 8) C iX0 hO 1 rfl rfl 6 (by decide) w32 (fun _ h9 => h9) rfl dX0_append_9 ?_
  refine gIast (j := (s_n S)) (ws' := (xW E a (mkS (upd (s_off S) (s_n S) (s_nx S)) (s_key S) (s_val S) (s_sto S) (s_n S) (s_nx S) (s_dr S) (s_hr S) (s_sc S) (s_on S) (s_said S) (s_sh S) (s_pc S) (s_at S) (s_hd S) (s_ms S) (s_kn S)) mk rk rv ++ F)) C hO 2 rfl (by omega) (by decide) rfl dX0_append_12 (fun H locs hO => ?_)
  refine lv_aload_n C.1 C.2.1 dX0_append_13 rfl (lv_at hl 0 rfl) ?_
  refine gGet (v := .ref (a 3)) (ref := RX0) (Cn := RX0) (T := TX0) (N := 8) C iX0 hO 1 rfl rfl 1 (by decide) w15 (fun _ h9 => h9) rfl dX0_append_14 ?_
  refine lv_aload_n C.1 C.2.1 dX0_append_17 rfl (lv_at hl 0 rfl) ?_
  refine gGet (v := .int (nI (s_n S))) (ref := RX0) (Cn := RX0) (T := TX0) (N := 8) C iX0 hO 1 rfl rfl 5 (by decide) w28 (fun _ h9 => h9) rfl dX0_append_18 ?_
  refine lv_iload_n C.1 C.2.1 dX0_append_21 rfl (lv_at hl 1 rfl) ?_
  refine gIast (j := (s_n S)) (ws' := (xW E a (mkS (upd (s_off S) (s_n S) (s_nx S)) (upd (s_key S) (s_n S) k) (s_val S) (s_sto S) (s_n S) (s_nx S) (s_dr S) (s_hr S) (s_sc S) (s_on S) (s_said S) (s_sh S) (s_pc S) (s_at S) (s_hd S) (s_ms S) (s_kn S)) mk rk rv ++ F)) C hO 3 rfl (by omega) (by decide) rfl dX0_append_22 (fun H locs hO => ?_)
  refine lv_aload_n C.1 C.2.1 dX0_append_23 rfl (lv_at hl 0 rfl) ?_
  refine gGet (v := .ref (a 4)) (ref := RX0) (Cn := RX0) (T := TX0) (N := 8) C iX0 hO 1 rfl rfl 2 (by decide) w18 (fun _ h9 => h9) rfl dX0_append_24 ?_
  refine lv_aload_n C.1 C.2.1 dX0_append_27 rfl (lv_at hl 0 rfl) ?_
  refine gGet (v := .int (nI (s_n S))) (ref := RX0) (Cn := RX0) (T := TX0) (N := 8) C iX0 hO 1 rfl rfl 5 (by decide) w28 (fun _ h9 => h9) rfl dX0_append_28 ?_
  refine lv_iload_n C.1 C.2.1 dX0_append_31 rfl (lv_at hl 2 rfl) ?_
  refine gIast (j := (s_n S)) (ws' := (xW E a (mkS (upd (s_off S) (s_n S) (s_nx S)) (upd (s_key S) (s_n S) k) (upd (s_val S) (s_n S) v) (s_sto S) (s_n S) (s_nx S) (s_dr S) (s_hr S) (s_sc S) (s_on S) (s_said S) (s_sh S) (s_pc S) (s_at S) (s_hd S) (s_ms S) (s_kn S)) mk rk rv ++ F)) C hO 4 rfl (by omega) (by decide) rfl dX0_append_32 (fun H locs hO => ?_)
  refine lv_aload_n C.1 C.2.1 dX0_append_33 rfl (lv_at hl 0 rfl) ?_
  refine gGet (v := .ref (a 5)) (ref := RX0) (Cn := RX0) (T := TX0) (N := 8) C iX0 hO 1 rfl rfl 3 (by decide) w21 (fun _ h9 => h9) rfl dX0_append_34 ?_
  refine lv_aload_n C.1 C.2.1 dX0_append_37 rfl (lv_at hl 0 rfl) ?_
  refine gGet (v := .int (nI (s_n S))) (ref := RX0) (Cn := RX0) (T := TX0) (N := 8) C iX0 hO 1 rfl rfl 5 (by decide) w28 (fun _ h9 => h9) rfl dX0_append_38 ?_
  refine lv_iload_n C.1 C.2.1 dX0_append_41 rfl (lv_at hl 3 rfl) ?_
  refine gIast (j := (s_n S)) (ws' := (xW E a (mkS (upd (s_off S) (s_n S) (s_nx S)) (upd (s_key S) (s_n S) k) (upd (s_val S) (s_n S) v) (upd (s_sto S) (s_n S) t) (s_n S) (s_nx S) (s_dr S) (s_hr S) (s_sc S) (s_on S) (s_said S) (s_sh S) (s_pc S) (s_at S) (s_hd S) (s_ms S) (s_kn S)) mk rk rv ++ F)) C hO 5 rfl (by omega) (by decide) rfl dX0_append_42 (fun H locs hO => ?_)
  refine lv_aload_n C.1 C.2.1 dX0_append_43 rfl (lv_at hl 0 rfl) ?_
  refine lv_dup C.1 C.2.1 dX0_append_44 rfl ?_
  refine gGet (v := .int (nI (s_n S))) (ref := RX0) (Cn := RX0) (T := TX0) (N := 8) C iX0 hO 1 rfl rfl 5 (by decide) w28 (fun _ h9 => h9) rfl dX0_append_45 ?_
  refine lv_iconst (v := 1) C.1 C.2.1 dX0_append_48 (by decide) ?_
  refine gAddN (x := (s_n S)) (y := 1) C.1 C.2.1 dX0_append_49 ?_
  refine gPut (ws' := (xW E a (mkS (upd (s_off S) (s_n S) (s_nx S)) (upd (s_key S) (s_n S) k) (upd (s_val S) (s_n S) v) (upd (s_sto S) (s_n S) t) ((s_n S) + 1) (s_nx S) (s_dr S) (s_hr S) (s_sc S) (s_on S) (s_said S) (s_sh S) (s_pc S) (s_at S) (s_hd S) (s_ms S) (s_kn S)) mk rk rv ++ F)) (ref := RX0) (Cn := RX0) (T := TX0) (N := 8) C iX0 tyX0 tyX0_ok nmX0 hO 1 rfl rfl 5 (by decide) w28 (fun _ h9 => h9) rfl (by decide +kernel) rfl rfl (Nat.le_of_ble_eq_true rfl) rfl dX0_append_50 (fun H locs hO => ?_)
  refine lv_aload_n C.1 C.2.1 dX0_append_53 rfl (lv_at hl 0 rfl) ?_
  refine lv_dup C.1 C.2.1 dX0_append_54 rfl ?_
  refine gGet (v := .int (s_nx S)) (ref := RX0) (Cn := RX0) (T := TX0) (N := 8) C iX0 hO 1 rfl rfl 6 (by decide) w32 (fun _ h9 => h9) rfl dX0_append_55 ?_
  refine lv_iconst (v := 1) C.1 C.2.1 dX0_append_58 (by decide) ?_
  refine lv_iadd C.1 C.2.1 dX0_append_59 ?_
  refine gPut (ws' := (xW E a (mkS (upd (s_off S) (s_n S) (s_nx S)) (upd (s_key S) (s_n S) k) (upd (s_val S) (s_n S) v) (upd (s_sto S) (s_n S) t) ((s_n S) + 1) ((s_nx S) + 1) (s_dr S) (s_hr S) (s_sc S) (s_on S) (s_said S) (s_sh S) (s_pc S) (s_at S) (s_hd S) (s_ms S) (s_kn S)) mk rk rv ++ F)) (ref := RX0) (Cn := RX0) (T := TX0) (N := 8) C iX0 tyX0 tyX0_ok nmX0 hO 1 rfl rfl 6 (by decide) w32 (fun _ h9 => h9) rfl (by decide +kernel) rfl rfl (Nat.le_of_ble_eq_true rfl) rfl dX0_append_60 (fun H locs hO => ?_)
  refine lv_aload_n C.1 C.2.1 dX0_append_63 rfl (lv_at hl 0 rfl) ?_
  refine gGet (v := .int ((s_nx S) + 1)) (ref := RX0) (Cn := RX0) (T := TX0) (N := 8) C iX0 hO 1 rfl rfl 6 (by decide) w32 (fun _ h9 => h9) rfl dX0_append_64 ?_
  refine lv_iconst (v := 1) C.1 C.2.1 dX0_append_67 (by decide) ?_
  refine lv_isub C.1 C.2.1 dX0_append_68 ?_
  exact gRi C hO rfl (by rw [Int32.add_sub_cancel]) dX0_append_69 (Nat.le_of_ble_eq_true rfl) (Nat.le_of_ble_eq_true rfl)

set_option maxHeartbeats 4000000 in
set_option maxRecDepth 100000 in
theorem c_X0_positionFrom (l : Launch) (E : gE) (a : Nat → Nat) (S : St) (mk rk rv : Nat → Int32) (F : va_W) (o : Int32) (hn : s_n S ≤ 48) : gMi l E yX0_positionFrom wsX0_positionFrom ({ frames := 0, cells := 0, slots := 0, locals := 0 }) (xW E a S mk rk rv ++ F) [.ref (a 1), .int o] (nI (pf (s_off S) o (s_n S))) (xW E a S mk rk rv ++ F) 0 0 := by
  refine gMi.of (cc := cX0_positionFrom) (maxL := 3) (ty := .int) (by decide) rfl (Nat.le_of_ble_eq_true rfl) ?_
  intro p e s m args below meth c A C ls hl hO
  have hl : lv_has ls 3 [(0, .ref (a 1)), (1, .int o)] := hl
  have iX0 : ∀ w ∈ u_ws RX0 TX0 8, w ∈ wsX0_positionFrom := by decide +kernel
  have w28 : Cond.fieldLink RX0 28 "ParrotLog$Log" "size" "I" ∈ wsX0_positionFrom := by decide +kernel
  have w9 : Cond.fieldLink RX0 9 "ParrotLog$Log" "offsets" "[I" ∈ wsX0_positionFrom := by decide +kernel
  refine lv_iconst (v := 0) C.1 C.2.1 dX0_positionFrom_0 (by decide) ?_
  refine lv_istore_n (lv' := [(2, .int 0), (0, .ref (a 1)), (1, .int o)]) C.1 C.2.1 dX0_positionFrom_1 rfl hl (by decide) rfl (fun ls hl => ?_)
  have lp24 : ∀ (f : Nat) (k : Nat), (s_n S + 1 ≤ k + f) → (k ≤ s_n S) → (pfA (s_off S) o (s_n S - k) k = pf (s_off S) o (s_n S)) → ∀ (H : Heap) (locs : List Loc), gO E A s (xW E a S mk rk rv ++ F) H locs → ∀ ls : Array Slot, lv_has ls 3 [(0, .ref (a 1)), (1, .int o), (2, .int (nI k))] → W p l e ({ frames := 0, cells := 0, slots := 0, locals := 0 } : Room) s m args below meth c H locs 0 0 (MQ below (gQi E A (nI (pf (s_off S) o (s_n S))) (xW E a S mk rk rv ++ F)) args s 0 0 A) (F0 m 2 ls []) := by
    intro f
    induction f with
    | zero =>
      intro k hf hk hR
      exact absurd hf (by omega)
    | succ f ih_lp24 =>
      intro k hf hk hR H locs hO ls hl
      refine lv_iload_n C.1 C.2.1 dX0_positionFrom_2 rfl (lv_at hl 2 rfl) ?_
      refine lv_aload_n C.1 C.2.1 dX0_positionFrom_3 rfl (lv_at hl 0 rfl) ?_
      refine gGet (v := .int (nI (s_n S))) (ref := RX0) (Cn := RX0) (T := TX0) (N := 8) C iX0 hO 1 rfl rfl 5 (by decide) w28 (fun _ h9 => h9) rfl dX0_positionFrom_4 ?_
      refine gGeN (x := k) (y := (s_n S)) (tgt := 26) C.1 C.2.1 (by omega) (by omega) dX0_positionFrom_7 (by decide) (fun c_1 => ?_) (fun c_1 => ?_)
      · refine lv_iload_n C.1 C.2.1 dX0_positionFrom_26 rfl (lv_at hl 2 rfl) ?_
        exact gRi C hO rfl (by first | (rw [← hR, show s_n S - k = 0 by omega, pfA]; done) | (rw [← hR, show s_n S - k = s_n S - (k + 1) + 1 by omega, pfA, if_neg c_2]; done)) dX0_positionFrom_27 (Nat.le_of_ble_eq_true rfl) (Nat.le_of_ble_eq_true rfl)
      · refine lv_aload_n C.1 C.2.1 dX0_positionFrom_10 rfl (lv_at hl 0 rfl) ?_
        refine gGet (v := .ref (a 2)) (ref := RX0) (Cn := RX0) (T := TX0) (N := 8) C iX0 hO 1 rfl rfl 0 (by decide) w9 (fun _ h9 => h9) rfl dX0_positionFrom_11 ?_
        refine lv_iload_n C.1 C.2.1 dX0_positionFrom_14 rfl (lv_at hl 2 rfl) ?_
        refine gIald (v := (s_off S) k) (j := k) C hO 2 rfl (by omega) (by decide) rfl dX0_positionFrom_15 ?_
        refine lv_iload_n C.1 C.2.1 dX0_positionFrom_16 rfl (lv_at hl 1 rfl) ?_
        refine gGeI (tgt := 26) C.1 C.2.1 dX0_positionFrom_17 (by decide) (fun c_2 => ?_) (fun c_2 => ?_)
        · refine lv_iload_n C.1 C.2.1 dX0_positionFrom_26 rfl (lv_at hl 2 rfl) ?_
          exact gRi C hO rfl (by first | (rw [← hR, show s_n S - k = 0 by omega, pfA]; done) | (rw [← hR, show s_n S - k = s_n S - (k + 1) + 1 by omega, pfA, if_neg c_2]; done)) dX0_positionFrom_27 (Nat.le_of_ble_eq_true rfl) (Nat.le_of_ble_eq_true rfl)
        · refine gInc (j := k) (k := 2) (lv' := [(2, .int (nI (k + 1))), (0, .ref (a 1)), (1, .int o)]) C.1 C.2.1 dX0_positionFrom_20 hl rfl (by decide) rfl (fun ls hl => ?_)
          refine lv_goto (tgt := 2) C.1 C.2.1 dX0_positionFrom_23 (by decide) ?_
          exact ih_lp24 (k + 1) (by omega) (by omega) (by rw [← hR, show s_n S - k = s_n S - (k + 1) + 1 by omega, pfA, if_pos c_2]) _ _ hO _ (lv_sub hl [1, 2, 0] rfl)
  exact lp24 (s_n S + 1) 0 (by omega) (Nat.zero_le _) rfl _ _ hO _ (lv_sub hl [1, 2, 0] rfl)

set_option maxHeartbeats 4000000 in
set_option maxRecDepth 100000 in
theorem c_X0_markFirst (l : Launch) (E : gE) (a : Nat → Nat) (S : St) (mk rk rv : Nat → Int32) (F : va_W)  (hn : s_n S ≤ 48) : gMv l E yX0_markFirst wsX0_markFirst ({ frames := 0, cells := 0, slots := 0, locals := 0 }) (xW E a S mk rk rv ++ F) [.ref (a 1)] (xW E a S (mkU gFirst mk (s_n S)) rk rv ++ F) 0 0 := by
  refine gMv.of (cc := cX0_markFirst) (maxL := 2) (by decide) rfl (Nat.le_of_ble_eq_true rfl) ?_
  intro p e s m args below meth c A C ls hl hO
  have hl : lv_has ls 2 [(0, .ref (a 1))] := hl
  have iX0 : ∀ w ∈ u_ws RX0 TX0 8, w ∈ wsX0_markFirst := by decide +kernel
  have w28 : Cond.fieldLink RX0 28 "ParrotLog$Log" "size" "I" ∈ wsX0_markFirst := by decide +kernel
  have w24 : Cond.fieldLink RX0 24 "ParrotLog$Log" "marked" "[Z" ∈ wsX0_markFirst := by decide +kernel
  have hO : gO E A s (xW E a S (mkU gFirst mk 0) rk rv ++ F) s.heap [] := by rw [mkU_0]; exact hO
  refine lv_iconst (v := 0) C.1 C.2.1 dX0_markFirst_0 (by decide) ?_
  refine lv_istore_n (lv' := [(1, .int 0), (0, .ref (a 1))]) C.1 C.2.1 dX0_markFirst_1 rfl hl (by decide) rfl (fun ls hl => ?_)
  have lp24 : ∀ (f : Nat) (k : Nat), (s_n S + 1 ≤ k + f) → (k ≤ s_n S) → ∀ (H : Heap) (locs : List Loc), gO E A s (xW E a S (mkU gFirst mk k) rk rv ++ F) H locs → ∀ ls : Array Slot, lv_has ls 2 [(0, .ref (a 1)), (1, .int (nI k))] → W p l e ({ frames := 0, cells := 0, slots := 0, locals := 0 } : Room) s m args below meth c H locs 0 0 (MQ below (gQv E A (xW E a S (mkU gFirst mk (s_n S)) rk rv ++ F)) args s 0 0 A) (F0 m 2 ls []) := by
    intro f
    induction f with
    | zero =>
      intro k hf hk
      exact absurd hf (by omega)
    | succ f ih_lp24 =>
      intro k hf hk H locs hO ls hl
      refine lv_iload_n C.1 C.2.1 dX0_markFirst_2 rfl (lv_at hl 1 rfl) ?_
      refine lv_aload_n C.1 C.2.1 dX0_markFirst_3 rfl (lv_at hl 0 rfl) ?_
      refine gGet (v := .int (nI (s_n S))) (ref := RX0) (Cn := RX0) (T := TX0) (N := 8) C iX0 hO 1 rfl rfl 5 (by decide) w28 (fun _ h9 => h9) rfl dX0_markFirst_4 ?_
      refine gGeN (x := k) (y := (s_n S)) (tgt := 31) C.1 C.2.1 (by omega) (by omega) dX0_markFirst_7 (by decide) (fun c_1 => ?_) (fun c_1 => ?_)
      · exact gRv C ((show k = s_n S by omega) ▸ hO) dX0_markFirst_31 (Nat.le_of_ble_eq_true rfl) (Nat.le_of_ble_eq_true rfl)
      · refine lv_aload_n C.1 C.2.1 dX0_markFirst_10 rfl (lv_at hl 0 rfl) ?_
        refine gGet (v := .ref (a 6)) (ref := RX0) (Cn := RX0) (T := TX0) (N := 8) C iX0 hO 1 rfl rfl 4 (by decide) w24 (fun _ h9 => h9) rfl dX0_markFirst_11 ?_
        refine lv_iload_n C.1 C.2.1 dX0_markFirst_14 rfl (lv_at hl 1 rfl) ?_
        refine lv_iload_n C.1 C.2.1 dX0_markFirst_15 rfl (lv_at hl 1 rfl) ?_
        refine lv_if_ne (tgt := 23) C.1 C.2.1 dX0_markFirst_16 (by decide) (fun c_2 => ?_) (fun c_2 => ?_)
        · have hz : gFirst k = 0 := if_neg (fun h => c_2 (by rw [h]; rfl))
          refine lv_iconst (v := 0) C.1 C.2.1 dX0_markFirst_23 (by decide) ?_
          refine gZast (j := k) (ws' := (xW E a S (mkU gFirst mk (k + 1)) rk rv ++ F)) C hO 6 rfl (by omega) (by decide) rfl (by rw [mkU_sv hz]; rfl) dX0_markFirst_24 (fun H locs hO => ?_)
          refine gInc (j := k) (k := 1) (lv' := [(1, .int (nI (k + 1))), (0, .ref (a 1))]) C.1 C.2.1 dX0_markFirst_25 hl rfl (by decide) rfl (fun ls hl => ?_)
          refine lv_goto (tgt := 2) C.1 C.2.1 dX0_markFirst_28 (by decide) ?_
          exact ih_lp24 (k + 1) (by omega) (by omega) _ _ hO _ (lv_sub hl [1, 0] rfl)
        · have hz : gFirst k = 1 := if_pos (nI_z (by omega) c_2)
          refine lv_iconst (v := 1) C.1 C.2.1 dX0_markFirst_19 (by decide) ?_
          refine lv_goto (tgt := 24) C.1 C.2.1 dX0_markFirst_20 (by decide) ?_
          refine gZast (j := k) (ws' := (xW E a S (mkU gFirst mk (k + 1)) rk rv ++ F)) C hO 6 rfl (by omega) (by decide) rfl (by rw [mkU_sv hz]; rfl) dX0_markFirst_24 (fun H locs hO => ?_)
          refine gInc (j := k) (k := 1) (lv' := [(1, .int (nI (k + 1))), (0, .ref (a 1))]) C.1 C.2.1 dX0_markFirst_25 hl rfl (by decide) rfl (fun ls hl => ?_)
          refine lv_goto (tgt := 2) C.1 C.2.1 dX0_markFirst_28 (by decide) ?_
          exact ih_lp24 (k + 1) (by omega) (by omega) _ _ hO _ (lv_sub hl [1, 0] rfl)
  exact lp24 (s_n S + 1) 0 (by omega) (Nat.zero_le _) _ _ hO _ (lv_sub hl [1, 0] rfl)

set_option maxHeartbeats 4000000 in
set_option maxRecDepth 100000 in
theorem c_X0_markAhead (l : Launch) (E : gE) (a : Nat → Nat) (S : St) (mk rk rv : Nat → Int32) (F : va_W) (o : Int32) (hn : s_n S ≤ 48) : gMv l E yX0_markAhead wsX0_markAhead ({ frames := 0, cells := 0, slots := 0, locals := 0 }) (xW E a S mk rk rv ++ F) [.ref (a 1), .int o] (xW E a S (mkU (gAhead (s_off S) o) mk (s_n S)) rk rv ++ F) 0 0 := by
  refine gMv.of (cc := cX0_markAhead) (maxL := 3) (by decide) rfl (Nat.le_of_ble_eq_true rfl) ?_
  intro p e s m args below meth c A C ls hl hO
  have hl : lv_has ls 3 [(0, .ref (a 1)), (1, .int o)] := hl
  have iX0 : ∀ w ∈ u_ws RX0 TX0 8, w ∈ wsX0_markAhead := by decide +kernel
  have w28 : Cond.fieldLink RX0 28 "ParrotLog$Log" "size" "I" ∈ wsX0_markAhead := by decide +kernel
  have w24 : Cond.fieldLink RX0 24 "ParrotLog$Log" "marked" "[Z" ∈ wsX0_markAhead := by decide +kernel
  have w9 : Cond.fieldLink RX0 9 "ParrotLog$Log" "offsets" "[I" ∈ wsX0_markAhead := by decide +kernel
  have hO : gO E A s (xW E a S (mkU (gAhead (s_off S) o) mk 0) rk rv ++ F) s.heap [] := by rw [mkU_0]; exact hO
  refine lv_iconst (v := 0) C.1 C.2.1 dX0_markAhead_0 (by decide) ?_
  refine lv_istore_n (lv' := [(2, .int 0), (0, .ref (a 1)), (1, .int o)]) C.1 C.2.1 dX0_markAhead_1 rfl hl (by decide) rfl (fun ls hl => ?_)
  have lp24 : ∀ (f : Nat) (k : Nat), (s_n S + 1 ≤ k + f) → (k ≤ s_n S) → ∀ (H : Heap) (locs : List Loc), gO E A s (xW E a S (mkU (gAhead (s_off S) o) mk k) rk rv ++ F) H locs → ∀ ls : Array Slot, lv_has ls 3 [(0, .ref (a 1)), (1, .int o), (2, .int (nI k))] → W p l e ({ frames := 0, cells := 0, slots := 0, locals := 0 } : Room) s m args below meth c H locs 0 0 (MQ below (gQv E A (xW E a S (mkU (gAhead (s_off S) o) mk (s_n S)) rk rv ++ F)) args s 0 0 A) (F0 m 2 ls []) := by
    intro f
    induction f with
    | zero =>
      intro k hf hk
      exact absurd hf (by omega)
    | succ f ih_lp24 =>
      intro k hf hk H locs hO ls hl
      refine lv_iload_n C.1 C.2.1 dX0_markAhead_2 rfl (lv_at hl 2 rfl) ?_
      refine lv_aload_n C.1 C.2.1 dX0_markAhead_3 rfl (lv_at hl 0 rfl) ?_
      refine gGet (v := .int (nI (s_n S))) (ref := RX0) (Cn := RX0) (T := TX0) (N := 8) C iX0 hO 1 rfl rfl 5 (by decide) w28 (fun _ h9 => h9) rfl dX0_markAhead_4 ?_
      refine gGeN (x := k) (y := (s_n S)) (tgt := 37) C.1 C.2.1 (by omega) (by omega) dX0_markAhead_7 (by decide) (fun c_1 => ?_) (fun c_1 => ?_)
      · exact gRv C ((show k = s_n S by omega) ▸ hO) dX0_markAhead_37 (Nat.le_of_ble_eq_true rfl) (Nat.le_of_ble_eq_true rfl)
      · refine lv_aload_n C.1 C.2.1 dX0_markAhead_10 rfl (lv_at hl 0 rfl) ?_
        refine gGet (v := .ref (a 6)) (ref := RX0) (Cn := RX0) (T := TX0) (N := 8) C iX0 hO 1 rfl rfl 4 (by decide) w24 (fun _ h9 => h9) rfl dX0_markAhead_11 ?_
        refine lv_iload_n C.1 C.2.1 dX0_markAhead_14 rfl (lv_at hl 2 rfl) ?_
        refine lv_aload_n C.1 C.2.1 dX0_markAhead_15 rfl (lv_at hl 0 rfl) ?_
        refine gGet (v := .ref (a 2)) (ref := RX0) (Cn := RX0) (T := TX0) (N := 8) C iX0 hO 1 rfl rfl 0 (by decide) w9 (fun _ h9 => h9) rfl dX0_markAhead_16 ?_
        refine lv_iload_n C.1 C.2.1 dX0_markAhead_19 rfl (lv_at hl 2 rfl) ?_
        refine gIald (v := (s_off S) k) (j := k) C hO 2 rfl (by omega) (by decide) rfl dX0_markAhead_20 ?_
        refine lv_iload_n C.1 C.2.1 dX0_markAhead_21 rfl (lv_at hl 1 rfl) ?_
        refine gGeI (tgt := 29) C.1 C.2.1 dX0_markAhead_22 (by decide) (fun c_2 => ?_) (fun c_2 => ?_)
        · have hz : gAhead (s_off S) o k = 0 := if_neg c_2
          refine lv_iconst (v := 0) C.1 C.2.1 dX0_markAhead_29 (by decide) ?_
          refine gZast (j := k) (ws' := (xW E a S (mkU (gAhead (s_off S) o) mk (k + 1)) rk rv ++ F)) C hO 6 rfl (by omega) (by decide) rfl (by rw [mkU_sv hz]; rfl) dX0_markAhead_30 (fun H locs hO => ?_)
          refine gInc (j := k) (k := 2) (lv' := [(2, .int (nI (k + 1))), (0, .ref (a 1)), (1, .int o)]) C.1 C.2.1 dX0_markAhead_31 hl rfl (by decide) rfl (fun ls hl => ?_)
          refine lv_goto (tgt := 2) C.1 C.2.1 dX0_markAhead_34 (by decide) ?_
          exact ih_lp24 (k + 1) (by omega) (by omega) _ _ hO _ (lv_sub hl [1, 2, 0] rfl)
        · have hz : gAhead (s_off S) o k = 1 := if_pos c_2
          refine lv_iconst (v := 1) C.1 C.2.1 dX0_markAhead_25 (by decide) ?_
          refine lv_goto (tgt := 30) C.1 C.2.1 dX0_markAhead_26 (by decide) ?_
          refine gZast (j := k) (ws' := (xW E a S (mkU (gAhead (s_off S) o) mk (k + 1)) rk rv ++ F)) C hO 6 rfl (by omega) (by decide) rfl (by rw [mkU_sv hz]; rfl) dX0_markAhead_30 (fun H locs hO => ?_)
          refine gInc (j := k) (k := 2) (lv' := [(2, .int (nI (k + 1))), (0, .ref (a 1)), (1, .int o)]) C.1 C.2.1 dX0_markAhead_31 hl rfl (by decide) rfl (fun ls hl => ?_)
          refine lv_goto (tgt := 2) C.1 C.2.1 dX0_markAhead_34 (by decide) ?_
          exact ih_lp24 (k + 1) (by omega) (by omega) _ _ hO _ (lv_sub hl [1, 2, 0] rfl)
  exact lp24 (s_n S + 1) 0 (by omega) (Nat.zero_le _) _ _ hO _ (lv_sub hl [1, 2, 0] rfl)

set_option maxHeartbeats 4000000 in
set_option maxRecDepth 100000 in
theorem c_X0_latestPosition (l : Launch) (E : gE) (a : Nat → Nat) (S : St) (mk rk rv : Nat → Int32) (F : va_W) (k : Int32) (fr t0 : Nat) (hfr : fr < 1000) (ht0 : t0 ≤ 48) : gMi l E yX0_latestPosition wsX0_latestPosition ({ frames := 0, cells := 0, slots := 0, locals := 0 }) (xW E a S mk rk rv ++ F) [.ref (a 1), .int k, .int (nI fr), .int (nI t0)] (oI (lpO (s_key S) k fr t0)) (xW E a S mk rk rv ++ F) 0 0 := by
  refine gMi.of (cc := cX0_latestPosition) (maxL := 5) (ty := .int) (by decide) rfl (Nat.le_of_ble_eq_true rfl) ?_
  intro p e s m args below meth c A C ls hl hO
  have hl : lv_has ls 5 [(0, .ref (a 1)), (1, .int k), (2, .int (nI fr)), (3, .int (nI t0))] := hl
  have iX0 : ∀ w ∈ u_ws RX0 TX0 8, w ∈ wsX0_latestPosition := by decide +kernel
  have w15 : Cond.fieldLink RX0 15 "ParrotLog$Log" "keys" "[I" ∈ wsX0_latestPosition := by decide +kernel
  refine lv_iload_n C.1 C.2.1 dX0_latestPosition_0 rfl (lv_at hl 3 rfl) ?_
  refine lv_iconst (v := 1) C.1 C.2.1 dX0_latestPosition_1 (by decide) ?_
  refine lv_isub C.1 C.2.1 dX0_latestPosition_2 ?_
  refine lv_istore (lv' := [(4, .int ((nI t0) - (nI 1))), (0, .ref (a 1)), (1, .int k), (2, .int (nI fr)), (3, .int (nI t0))]) C.1 C.2.1 dX0_latestPosition_3 hl (by decide) rfl (fun ls hl => ?_)
  have lp24 : ∀ (f : Nat) (t : Nat), (t + 1 ≤ f) → (t ≤ t0) → (lpO (s_key S) k fr t = lpO (s_key S) k fr t0) → ∀ (H : Heap) (locs : List Loc), gO E A s (xW E a S mk rk rv ++ F) H locs → ∀ ls : Array Slot, lv_has ls 5 [(0, .ref (a 1)), (1, .int k), (2, .int (nI fr)), (4, .int (nI t - 1))] → W p l e ({ frames := 0, cells := 0, slots := 0, locals := 0 } : Room) s m args below meth c H locs 0 0 (MQ below (gQi E A (oI (lpO (s_key S) k fr t0)) (xW E a S mk rk rv ++ F)) args s 0 0 A) (F0 m 5 ls []) := by
    intro f
    induction f with
    | zero =>
      intro t hf ht hR
      exact absurd hf (by omega)
    | succ f ih_lp24 =>
      intro t hf ht hR H locs hO ls hl
      refine lv_iload C.1 C.2.1 dX0_latestPosition_5 (lv_at hl 3 rfl) ?_
      refine lv_iload_n C.1 C.2.1 dX0_latestPosition_7 rfl (lv_at hl 2 rfl) ?_
      refine lv_icmp_lt (tgt := 31) C.1 C.2.1 dX0_latestPosition_8 (by decide) (fun c_1 => ?_) (fun c_1 => ?_)
      · have hge : t ≤ fr := (lpO_ls (key := s_key S) (k := k) (by omega) (by omega)).mp c_1
        refine lv_iconst (v := (-1)) C.1 C.2.1 dX0_latestPosition_31 (by decide) ?_
        exact gRi C hO rfl (by rw [← hR, lpO_ge hge]; rfl) dX0_latestPosition_32 (Nat.le_of_ble_eq_true rfl) (Nat.le_of_ble_eq_true rfl)
      · have hlt : fr < t := by rw [lpO_ls (key := s_key S) (k := k) (by omega) (by omega)] at c_1; omega
        refine lv_aload_n C.1 C.2.1 dX0_latestPosition_11 rfl (lv_at hl 0 rfl) ?_
        refine gGet (v := .ref (a 3)) (ref := RX0) (Cn := RX0) (T := TX0) (N := 8) C iX0 hO 1 rfl rfl 1 (by decide) w15 (fun _ h9 => h9) rfl dX0_latestPosition_12 ?_
        refine lv_iload C.1 C.2.1 dX0_latestPosition_15 (lv_at hl 3 rfl) ?_
        refine lv_eqi (y := nI (t - 1)) (nI_p (by omega)) ?_
        refine gIald (v := (s_key S) (t - 1)) (j := (t - 1)) C hO 3 rfl (by omega) (by decide) rfl dX0_latestPosition_17 ?_
        refine lv_iload_n C.1 C.2.1 dX0_latestPosition_18 rfl (lv_at hl 1 rfl) ?_
        refine lv_icmp_ne (tgt := 25) C.1 C.2.1 dX0_latestPosition_19 (by decide) (fun c_2 => ?_) (fun c_2 => ?_)
        · refine lv_iinc (v := nI (t - 1) - 1) (lv' := [(4, .int (nI (t - 1) - 1)), (0, .ref (a 1)), (1, .int k), (2, .int (nI fr))]) C.1 C.2.1 dX0_latestPosition_25 hl (k := 3) rfl (by rw [iDec, nI_p (by omega)]) (by decide) rfl (fun ls hl => ?_)
          refine lv_goto (tgt := 5) C.1 C.2.1 dX0_latestPosition_28 (by decide) ?_
          exact ih_lp24 (t - 1) (by omega) (by omega) (by rw [← hR, lpO_s hlt, if_neg c_2]) _ _ hO _ (lv_sub hl [1, 2, 3, 0] rfl)
        · refine lv_iload C.1 C.2.1 dX0_latestPosition_22 (lv_at hl 3 rfl) ?_
          exact gRi C hO rfl (by rw [nI_p (by omega), ← hR, lpO_s hlt, if_pos c_2]; rfl) dX0_latestPosition_24 (Nat.le_of_ble_eq_true rfl) (Nat.le_of_ble_eq_true rfl)
  exact lp24 (t0 + 1) t0 (by omega) (Nat.le_refl _) rfl _ _ hO _ (lv_sub hl [1, 2, 3, 0] rfl)

set_option maxHeartbeats 4000000 in
set_option maxRecDepth 100000 in
theorem c_X0_markCompacted (l : Launch) (E : gE) (a : Nat → Nat) (S : St) (mk rk rv : Nat → Int32) (F : va_W) (q : Int32) (hn : s_n S ≤ 48) : gMv l E yX0_markCompacted wsX0_markCompacted ({ frames := 1, cells := 0, slots := 0, locals := 24 }) (xW E a S mk rk rv ++ F) [.ref (a 1), .int q] (xW E a S (mkU (gComp (s_off S) (s_key S) (s_val S) (s_n S) q) mk (s_n S)) rk rv ++ F) 0 0 := by
  refine gMv.of (cc := cX0_markCompacted) (maxL := 5) (by decide) rfl (Nat.le_of_ble_eq_true rfl) ?_
  intro p e s m args below meth c A C ls hl hO
  have hl : lv_has ls 5 [(0, .ref (a 1)), (1, .int q)] := hl
  have iX0 : ∀ w ∈ u_ws RX0 TX0 8, w ∈ wsX0_markCompacted := by decide +kernel
  have w28 : Cond.fieldLink RX0 28 "ParrotLog$Log" "size" "I" ∈ wsX0_markCompacted := by decide +kernel
  have w15 : Cond.fieldLink RX0 15 "ParrotLog$Log" "keys" "[I" ∈ wsX0_markCompacted := by decide +kernel
  have w18 : Cond.fieldLink RX0 18 "ParrotLog$Log" "values" "[I" ∈ wsX0_markCompacted := by decide +kernel
  have w24 : Cond.fieldLink RX0 24 "ParrotLog$Log" "marked" "[Z" ∈ wsX0_markCompacted := by decide +kernel
  have w9 : Cond.fieldLink RX0 9 "ParrotLog$Log" "offsets" "[I" ∈ wsX0_markCompacted := by decide +kernel
  have hO : gO E A s (xW E a S (mkU (gComp (s_off S) (s_key S) (s_val S) (s_n S) q) mk 0) rk rv ++ F) s.heap [] := by rw [mkU_0]; exact hO
  refine lv_iconst (v := 0) C.1 C.2.1 dX0_markCompacted_0 (by decide) ?_
  refine lv_istore_n (lv' := [(2, .int 0), (0, .ref (a 1)), (1, .int q)]) C.1 C.2.1 dX0_markCompacted_1 rfl hl (by decide) rfl (fun ls hl => ?_)
  have lp24 : ∀ (f : Nat) (k : Nat), (s_n S + 1 ≤ k + f) → (k ≤ s_n S) → ∀ (H : Heap) (locs : List Loc), gO E A s (xW E a S (mkU (gComp (s_off S) (s_key S) (s_val S) (s_n S) q) mk k) rk rv ++ F) H locs → ∀ ls : Array Slot, lv_has ls 5 [(0, .ref (a 1)), (1, .int q), (2, .int (nI k))] → W p l e ({ frames := 1, cells := 0, slots := 0, locals := 24 } : Room) s m args below meth c H locs 0 0 (MQ below (gQv E A (xW E a S (mkU (gComp (s_off S) (s_key S) (s_val S) (s_n S) q) mk (s_n S)) rk rv ++ F)) args s 0 0 A) (F0 m 2 ls []) := by
    intro f
    induction f with
    | zero =>
      intro k hf hk
      exact absurd hf (by omega)
    | succ f ih_lp24 =>
      intro k hf hk H locs hO ls hl
      refine lv_iload_n C.1 C.2.1 dX0_markCompacted_2 rfl (lv_at hl 2 rfl) ?_
      refine lv_aload_n C.1 C.2.1 dX0_markCompacted_3 rfl (lv_at hl 0 rfl) ?_
      refine gGet (v := .int (nI (s_n S))) (ref := RX0) (Cn := RX0) (T := TX0) (N := 8) C iX0 hO 1 rfl rfl 5 (by decide) w28 (fun _ h9 => h9) rfl dX0_markCompacted_4 ?_
      refine gGeN (x := k) (y := (s_n S)) (tgt := 89) C.1 C.2.1 (by omega) (by omega) dX0_markCompacted_7 (by decide) (fun c_1 => ?_) (fun c_1 => ?_)
      · exact gRv C ((show k = s_n S by omega) ▸ hO) dX0_markCompacted_89 (Nat.le_of_ble_eq_true rfl) (Nat.le_of_ble_eq_true rfl)
      · refine lv_aload_n C.1 C.2.1 dX0_markCompacted_10 rfl (lv_at hl 0 rfl) ?_
        refine lv_aload_n C.1 C.2.1 dX0_markCompacted_11 rfl (lv_at hl 0 rfl) ?_
        refine gGet (v := .ref (a 3)) (ref := RX0) (Cn := RX0) (T := TX0) (N := 8) C iX0 hO 1 rfl rfl 1 (by decide) w15 (fun _ h9 => h9) rfl dX0_markCompacted_12 ?_
        refine lv_iload_n C.1 C.2.1 dX0_markCompacted_15 rfl (lv_at hl 2 rfl) ?_
        refine gIald (v := (s_key S) k) (j := k) C hO 3 rfl (by omega) (by decide) rfl dX0_markCompacted_16 ?_
        refine lv_iload_n C.1 C.2.1 dX0_markCompacted_17 rfl (lv_at hl 2 rfl) ?_
        refine lv_iconst (v := 1) C.1 C.2.1 dX0_markCompacted_18 (by decide) ?_
        refine gAddN (x := k) (y := 1) C.1 C.2.1 dX0_markCompacted_19 ?_
        refine lv_aload_n C.1 C.2.1 dX0_markCompacted_20 rfl (lv_at hl 0 rfl) ?_
        refine gGet (v := .int (nI (s_n S))) (ref := RX0) (Cn := RX0) (T := TX0) (N := 8) C iX0 hO 1 rfl rfl 5 (by decide) w28 (fun _ h9 => h9) rfl dX0_markCompacted_21 ?_
        refine gCall_i (As := [.int ((s_key S) k), .int (nI (k + 1)), .int (nI (s_n S))]) (rest := []) C hO (c_X0_latestPosition l E a S (mkU (gComp (s_off S) (s_key S) (s_val S) (s_n S) q) mk k) rk rv F ((s_key S) k) (k + 1) (s_n S) (by omega) (by omega)) (cwV 3 C.2.2.2.2.1 gX0_markCompacted_X0_latestPosition rfl rfl rfl (by decide +kernel) ⟨(Nat.le_of_ble_eq_true rfl), (Nat.le_of_ble_eq_true rfl)⟩) (va_recv C.2.2.2.2.2.2.2.1.1 hO.1 (ci := 0) (q0 := 1) rfl rfl) rfl hl.1 rfl (Nat.le_of_ble_eq_true rfl) dX0_markCompacted_24 ⟨(Nat.le_of_ble_eq_true rfl), (Nat.le_of_ble_eq_true rfl)⟩ (fun H locs hO => ?_)
        refine lv_iconst (v := (-1)) C.1 C.2.1 dX0_markCompacted_27 (by decide) ?_
        refine lv_icmp_eq (tgt := 35) C.1 C.2.1 dX0_markCompacted_28 (by decide) (fun c_2 => ?_) (fun c_2 => ?_)
        · have h1 : lpO (s_key S) (s_key S k) (k + 1) (s_n S) = none := lpO_m1 (by omega) c_2
          refine lv_iconst (v := 0) C.1 C.2.1 dX0_markCompacted_35 (by decide) ?_
          refine lv_istore_n (lv' := [(3, .int 0), (0, .ref (a 1)), (1, .int q), (2, .int (nI k))]) C.1 C.2.1 dX0_markCompacted_36 rfl hl (by decide) rfl (fun ls hl => ?_)
          refine lv_aload_n C.1 C.2.1 dX0_markCompacted_37 rfl (lv_at hl 1 rfl) ?_
          refine gGet (v := .ref (a 4)) (ref := RX0) (Cn := RX0) (T := TX0) (N := 8) C iX0 hO 1 rfl rfl 2 (by decide) w18 (fun _ h9 => h9) rfl dX0_markCompacted_38 ?_
          refine lv_iload_n C.1 C.2.1 dX0_markCompacted_41 rfl (lv_at hl 3 rfl) ?_
          refine gIald (v := (s_val S) k) (j := k) C hO 4 rfl (by omega) (by decide) rfl dX0_markCompacted_42 ?_
          refine lv_if_ne (tgt := 60) C.1 C.2.1 dX0_markCompacted_43 (by decide) (fun c_3 => ?_) (fun c_3 => ?_)
          · have hv : ¬ s_val S k = 0 := c_3
            refine lv_iconst (v := 0) C.1 C.2.1 dX0_markCompacted_60 (by decide) ?_
            refine lv_istore (lv' := [(4, .int 0), (3, .int 0), (0, .ref (a 1)), (1, .int q), (2, .int (nI k))]) C.1 C.2.1 dX0_markCompacted_61 hl (by decide) rfl (fun ls hl => ?_)
            refine lv_aload_n C.1 C.2.1 dX0_markCompacted_63 rfl (lv_at hl 2 rfl) ?_
            refine gGet (v := .ref (a 6)) (ref := RX0) (Cn := RX0) (T := TX0) (N := 8) C iX0 hO 1 rfl rfl 4 (by decide) w24 (fun _ h9 => h9) rfl dX0_markCompacted_64 ?_
            refine lv_iload_n C.1 C.2.1 dX0_markCompacted_67 rfl (lv_at hl 4 rfl) ?_
            refine lv_iload_n C.1 C.2.1 dX0_markCompacted_68 rfl (lv_at hl 1 rfl) ?_
            refine lv_if_ne (tgt := 77) C.1 C.2.1 dX0_markCompacted_69 (by decide) (fun c_4 => ?_) (fun c_4 => ?_)
            · exact absurd rfl c_4
            · refine lv_iload C.1 C.2.1 dX0_markCompacted_72 (lv_at hl 0 rfl) ?_
              refine lv_if_eq (tgt := 81) C.1 C.2.1 dX0_markCompacted_74 (by decide) (fun c_5 => ?_) (fun c_5 => ?_)
              · refine lv_iconst (v := 0) C.1 C.2.1 dX0_markCompacted_81 (by decide) ?_
                refine gZast (j := k) (ws' := (xW E a S (mkU (gComp (s_off S) (s_key S) (s_val S) (s_n S) q) mk (k + 1)) rk rv ++ F)) C hO 6 rfl (by omega) (by decide) rfl (by rw [mkU_sv (g := gComp (s_off S) (s_key S) (s_val S) (s_n S) q) (mk := mk) (n := k) (x := 0) (by first | exact gComp_0 (fun h => h.elim (fun g => g h1) (fun g => hv g.1)) | exact gComp_0 (fun h => h.elim (fun g => g h1) (fun g => ho g.2)))]; rfl) dX0_markCompacted_82 (fun H locs hO => ?_)
                refine gInc (j := k) (k := 4) (lv' := [(2, .int (nI (k + 1))), (4, .int 0), (3, .int 0), (0, .ref (a 1)), (1, .int q)]) C.1 C.2.1 dX0_markCompacted_83 hl rfl (by decide) rfl (fun ls hl => ?_)
                refine lv_goto (tgt := 2) C.1 C.2.1 dX0_markCompacted_86 (by decide) ?_
                refine W.widen (k := 0) (n := 0) (by omega) (by omega) ?_
                exact ih_lp24 (k + 1) (by omega) (by omega) _ _ hO _ (lv_sub hl [3, 4, 0] rfl)
              · exact absurd rfl c_5
          · have hv : s_val S k = 0 := c_3
            refine lv_aload_n C.1 C.2.1 dX0_markCompacted_46 rfl (lv_at hl 1 rfl) ?_
            refine gGet (v := .ref (a 2)) (ref := RX0) (Cn := RX0) (T := TX0) (N := 8) C iX0 hO 1 rfl rfl 0 (by decide) w9 (fun _ h9 => h9) rfl dX0_markCompacted_47 ?_
            refine lv_iload_n C.1 C.2.1 dX0_markCompacted_50 rfl (lv_at hl 3 rfl) ?_
            refine gIald (v := (s_off S) k) (j := k) C hO 2 rfl (by omega) (by decide) rfl dX0_markCompacted_51 ?_
            refine lv_iload_n C.1 C.2.1 dX0_markCompacted_52 rfl (lv_at hl 2 rfl) ?_
            refine gGeI (tgt := 60) C.1 C.2.1 dX0_markCompacted_53 (by decide) (fun c_6 => ?_) (fun c_6 => ?_)
            · have ho : ¬ s_off S k < q := c_6
              refine lv_iconst (v := 0) C.1 C.2.1 dX0_markCompacted_60 (by decide) ?_
              refine lv_istore (lv' := [(4, .int 0), (3, .int 0), (0, .ref (a 1)), (1, .int q), (2, .int (nI k))]) C.1 C.2.1 dX0_markCompacted_61 hl (by decide) rfl (fun ls hl => ?_)
              refine lv_aload_n C.1 C.2.1 dX0_markCompacted_63 rfl (lv_at hl 2 rfl) ?_
              refine gGet (v := .ref (a 6)) (ref := RX0) (Cn := RX0) (T := TX0) (N := 8) C iX0 hO 1 rfl rfl 4 (by decide) w24 (fun _ h9 => h9) rfl dX0_markCompacted_64 ?_
              refine lv_iload_n C.1 C.2.1 dX0_markCompacted_67 rfl (lv_at hl 4 rfl) ?_
              refine lv_iload_n C.1 C.2.1 dX0_markCompacted_68 rfl (lv_at hl 1 rfl) ?_
              refine lv_if_ne (tgt := 77) C.1 C.2.1 dX0_markCompacted_69 (by decide) (fun c_7 => ?_) (fun c_7 => ?_)
              · exact absurd rfl c_7
              · refine lv_iload C.1 C.2.1 dX0_markCompacted_72 (lv_at hl 0 rfl) ?_
                refine lv_if_eq (tgt := 81) C.1 C.2.1 dX0_markCompacted_74 (by decide) (fun c_8 => ?_) (fun c_8 => ?_)
                · refine lv_iconst (v := 0) C.1 C.2.1 dX0_markCompacted_81 (by decide) ?_
                  refine gZast (j := k) (ws' := (xW E a S (mkU (gComp (s_off S) (s_key S) (s_val S) (s_n S) q) mk (k + 1)) rk rv ++ F)) C hO 6 rfl (by omega) (by decide) rfl (by rw [mkU_sv (g := gComp (s_off S) (s_key S) (s_val S) (s_n S) q) (mk := mk) (n := k) (x := 0) (by first | exact gComp_0 (fun h => h.elim (fun g => g h1) (fun g => hv g.1)) | exact gComp_0 (fun h => h.elim (fun g => g h1) (fun g => ho g.2)))]; rfl) dX0_markCompacted_82 (fun H locs hO => ?_)
                  refine gInc (j := k) (k := 4) (lv' := [(2, .int (nI (k + 1))), (4, .int 0), (3, .int 0), (0, .ref (a 1)), (1, .int q)]) C.1 C.2.1 dX0_markCompacted_83 hl rfl (by decide) rfl (fun ls hl => ?_)
                  refine lv_goto (tgt := 2) C.1 C.2.1 dX0_markCompacted_86 (by decide) ?_
                  refine W.widen (k := 0) (n := 0) (by omega) (by omega) ?_
                  exact ih_lp24 (k + 1) (by omega) (by omega) _ _ hO _ (lv_sub hl [3, 4, 0] rfl)
                · exact absurd rfl c_8
            · have ho : s_off S k < q := c_6
              refine lv_iconst (v := 1) C.1 C.2.1 dX0_markCompacted_56 (by decide) ?_
              refine lv_goto (tgt := 61) C.1 C.2.1 dX0_markCompacted_57 (by decide) ?_
              refine lv_istore (lv' := [(4, .int 1), (3, .int 0), (0, .ref (a 1)), (1, .int q), (2, .int (nI k))]) C.1 C.2.1 dX0_markCompacted_61 hl (by decide) rfl (fun ls hl => ?_)
              refine lv_aload_n C.1 C.2.1 dX0_markCompacted_63 rfl (lv_at hl 2 rfl) ?_
              refine gGet (v := .ref (a 6)) (ref := RX0) (Cn := RX0) (T := TX0) (N := 8) C iX0 hO 1 rfl rfl 4 (by decide) w24 (fun _ h9 => h9) rfl dX0_markCompacted_64 ?_
              refine lv_iload_n C.1 C.2.1 dX0_markCompacted_67 rfl (lv_at hl 4 rfl) ?_
              refine lv_iload_n C.1 C.2.1 dX0_markCompacted_68 rfl (lv_at hl 1 rfl) ?_
              refine lv_if_ne (tgt := 77) C.1 C.2.1 dX0_markCompacted_69 (by decide) (fun c_9 => ?_) (fun c_9 => ?_)
              · exact absurd rfl c_9
              · refine lv_iload C.1 C.2.1 dX0_markCompacted_72 (lv_at hl 0 rfl) ?_
                refine lv_if_eq (tgt := 81) C.1 C.2.1 dX0_markCompacted_74 (by decide) (fun c_10 => ?_) (fun c_10 => ?_)
                · exact absurd c_10 (by decide)
                · refine lv_iconst (v := 1) C.1 C.2.1 dX0_markCompacted_77 (by decide) ?_
                  refine lv_goto (tgt := 82) C.1 C.2.1 dX0_markCompacted_78 (by decide) ?_
                  refine gZast (j := k) (ws' := (xW E a S (mkU (gComp (s_off S) (s_key S) (s_val S) (s_n S) q) mk (k + 1)) rk rv ++ F)) C hO 6 rfl (by omega) (by decide) rfl (by rw [mkU_sv (g := gComp (s_off S) (s_key S) (s_val S) (s_n S) q) (mk := mk) (n := k) (x := 1) (by first | exact gComp_1 (Or.inl h1) | exact gComp_1 (Or.inr ⟨hv, ho⟩))]; rfl) dX0_markCompacted_82 (fun H locs hO => ?_)
                  refine gInc (j := k) (k := 4) (lv' := [(2, .int (nI (k + 1))), (4, .int 1), (3, .int 0), (0, .ref (a 1)), (1, .int q)]) C.1 C.2.1 dX0_markCompacted_83 hl rfl (by decide) rfl (fun ls hl => ?_)
                  refine lv_goto (tgt := 2) C.1 C.2.1 dX0_markCompacted_86 (by decide) ?_
                  refine W.widen (k := 0) (n := 0) (by omega) (by omega) ?_
                  exact ih_lp24 (k + 1) (by omega) (by omega) _ _ hO _ (lv_sub hl [3, 4, 0] rfl)
        · have h1 : lpO (s_key S) (s_key S k) (k + 1) (s_n S) ≠ none := fun g => c_2 (by rw [g]; rfl)
          refine lv_iconst (v := 1) C.1 C.2.1 dX0_markCompacted_31 (by decide) ?_
          refine lv_goto (tgt := 36) C.1 C.2.1 dX0_markCompacted_32 (by decide) ?_
          refine lv_istore_n (lv' := [(3, .int 1), (0, .ref (a 1)), (1, .int q), (2, .int (nI k))]) C.1 C.2.1 dX0_markCompacted_36 rfl hl (by decide) rfl (fun ls hl => ?_)
          refine lv_aload_n C.1 C.2.1 dX0_markCompacted_37 rfl (lv_at hl 1 rfl) ?_
          refine gGet (v := .ref (a 4)) (ref := RX0) (Cn := RX0) (T := TX0) (N := 8) C iX0 hO 1 rfl rfl 2 (by decide) w18 (fun _ h9 => h9) rfl dX0_markCompacted_38 ?_
          refine lv_iload_n C.1 C.2.1 dX0_markCompacted_41 rfl (lv_at hl 3 rfl) ?_
          refine gIald (v := (s_val S) k) (j := k) C hO 4 rfl (by omega) (by decide) rfl dX0_markCompacted_42 ?_
          refine lv_if_ne (tgt := 60) C.1 C.2.1 dX0_markCompacted_43 (by decide) (fun c_11 => ?_) (fun c_11 => ?_)
          · have hv : ¬ s_val S k = 0 := c_11
            refine lv_iconst (v := 0) C.1 C.2.1 dX0_markCompacted_60 (by decide) ?_
            refine lv_istore (lv' := [(4, .int 0), (3, .int 1), (0, .ref (a 1)), (1, .int q), (2, .int (nI k))]) C.1 C.2.1 dX0_markCompacted_61 hl (by decide) rfl (fun ls hl => ?_)
            refine lv_aload_n C.1 C.2.1 dX0_markCompacted_63 rfl (lv_at hl 2 rfl) ?_
            refine gGet (v := .ref (a 6)) (ref := RX0) (Cn := RX0) (T := TX0) (N := 8) C iX0 hO 1 rfl rfl 4 (by decide) w24 (fun _ h9 => h9) rfl dX0_markCompacted_64 ?_
            refine lv_iload_n C.1 C.2.1 dX0_markCompacted_67 rfl (lv_at hl 4 rfl) ?_
            refine lv_iload_n C.1 C.2.1 dX0_markCompacted_68 rfl (lv_at hl 1 rfl) ?_
            refine lv_if_ne (tgt := 77) C.1 C.2.1 dX0_markCompacted_69 (by decide) (fun c_12 => ?_) (fun c_12 => ?_)
            · refine lv_iconst (v := 1) C.1 C.2.1 dX0_markCompacted_77 (by decide) ?_
              refine lv_goto (tgt := 82) C.1 C.2.1 dX0_markCompacted_78 (by decide) ?_
              refine gZast (j := k) (ws' := (xW E a S (mkU (gComp (s_off S) (s_key S) (s_val S) (s_n S) q) mk (k + 1)) rk rv ++ F)) C hO 6 rfl (by omega) (by decide) rfl (by rw [mkU_sv (g := gComp (s_off S) (s_key S) (s_val S) (s_n S) q) (mk := mk) (n := k) (x := 1) (by first | exact gComp_1 (Or.inl h1) | exact gComp_1 (Or.inr ⟨hv, ho⟩))]; rfl) dX0_markCompacted_82 (fun H locs hO => ?_)
              refine gInc (j := k) (k := 4) (lv' := [(2, .int (nI (k + 1))), (4, .int 0), (3, .int 1), (0, .ref (a 1)), (1, .int q)]) C.1 C.2.1 dX0_markCompacted_83 hl rfl (by decide) rfl (fun ls hl => ?_)
              refine lv_goto (tgt := 2) C.1 C.2.1 dX0_markCompacted_86 (by decide) ?_
              refine W.widen (k := 0) (n := 0) (by omega) (by omega) ?_
              exact ih_lp24 (k + 1) (by omega) (by omega) _ _ hO _ (lv_sub hl [3, 4, 0] rfl)
            · exact absurd c_12 (by decide)
          · have hv : s_val S k = 0 := c_11
            refine lv_aload_n C.1 C.2.1 dX0_markCompacted_46 rfl (lv_at hl 1 rfl) ?_
            refine gGet (v := .ref (a 2)) (ref := RX0) (Cn := RX0) (T := TX0) (N := 8) C iX0 hO 1 rfl rfl 0 (by decide) w9 (fun _ h9 => h9) rfl dX0_markCompacted_47 ?_
            refine lv_iload_n C.1 C.2.1 dX0_markCompacted_50 rfl (lv_at hl 3 rfl) ?_
            refine gIald (v := (s_off S) k) (j := k) C hO 2 rfl (by omega) (by decide) rfl dX0_markCompacted_51 ?_
            refine lv_iload_n C.1 C.2.1 dX0_markCompacted_52 rfl (lv_at hl 2 rfl) ?_
            refine gGeI (tgt := 60) C.1 C.2.1 dX0_markCompacted_53 (by decide) (fun c_13 => ?_) (fun c_13 => ?_)
            · have ho : ¬ s_off S k < q := c_13
              refine lv_iconst (v := 0) C.1 C.2.1 dX0_markCompacted_60 (by decide) ?_
              refine lv_istore (lv' := [(4, .int 0), (3, .int 1), (0, .ref (a 1)), (1, .int q), (2, .int (nI k))]) C.1 C.2.1 dX0_markCompacted_61 hl (by decide) rfl (fun ls hl => ?_)
              refine lv_aload_n C.1 C.2.1 dX0_markCompacted_63 rfl (lv_at hl 2 rfl) ?_
              refine gGet (v := .ref (a 6)) (ref := RX0) (Cn := RX0) (T := TX0) (N := 8) C iX0 hO 1 rfl rfl 4 (by decide) w24 (fun _ h9 => h9) rfl dX0_markCompacted_64 ?_
              refine lv_iload_n C.1 C.2.1 dX0_markCompacted_67 rfl (lv_at hl 4 rfl) ?_
              refine lv_iload_n C.1 C.2.1 dX0_markCompacted_68 rfl (lv_at hl 1 rfl) ?_
              refine lv_if_ne (tgt := 77) C.1 C.2.1 dX0_markCompacted_69 (by decide) (fun c_14 => ?_) (fun c_14 => ?_)
              · refine lv_iconst (v := 1) C.1 C.2.1 dX0_markCompacted_77 (by decide) ?_
                refine lv_goto (tgt := 82) C.1 C.2.1 dX0_markCompacted_78 (by decide) ?_
                refine gZast (j := k) (ws' := (xW E a S (mkU (gComp (s_off S) (s_key S) (s_val S) (s_n S) q) mk (k + 1)) rk rv ++ F)) C hO 6 rfl (by omega) (by decide) rfl (by rw [mkU_sv (g := gComp (s_off S) (s_key S) (s_val S) (s_n S) q) (mk := mk) (n := k) (x := 1) (by first | exact gComp_1 (Or.inl h1) | exact gComp_1 (Or.inr ⟨hv, ho⟩))]; rfl) dX0_markCompacted_82 (fun H locs hO => ?_)
                refine gInc (j := k) (k := 4) (lv' := [(2, .int (nI (k + 1))), (4, .int 0), (3, .int 1), (0, .ref (a 1)), (1, .int q)]) C.1 C.2.1 dX0_markCompacted_83 hl rfl (by decide) rfl (fun ls hl => ?_)
                refine lv_goto (tgt := 2) C.1 C.2.1 dX0_markCompacted_86 (by decide) ?_
                refine W.widen (k := 0) (n := 0) (by omega) (by omega) ?_
                exact ih_lp24 (k + 1) (by omega) (by omega) _ _ hO _ (lv_sub hl [3, 4, 0] rfl)
              · exact absurd c_14 (by decide)
            · have ho : s_off S k < q := c_13
              refine lv_iconst (v := 1) C.1 C.2.1 dX0_markCompacted_56 (by decide) ?_
              refine lv_goto (tgt := 61) C.1 C.2.1 dX0_markCompacted_57 (by decide) ?_
              refine lv_istore (lv' := [(4, .int 1), (3, .int 1), (0, .ref (a 1)), (1, .int q), (2, .int (nI k))]) C.1 C.2.1 dX0_markCompacted_61 hl (by decide) rfl (fun ls hl => ?_)
              refine lv_aload_n C.1 C.2.1 dX0_markCompacted_63 rfl (lv_at hl 2 rfl) ?_
              refine gGet (v := .ref (a 6)) (ref := RX0) (Cn := RX0) (T := TX0) (N := 8) C iX0 hO 1 rfl rfl 4 (by decide) w24 (fun _ h9 => h9) rfl dX0_markCompacted_64 ?_
              refine lv_iload_n C.1 C.2.1 dX0_markCompacted_67 rfl (lv_at hl 4 rfl) ?_
              refine lv_iload_n C.1 C.2.1 dX0_markCompacted_68 rfl (lv_at hl 1 rfl) ?_
              refine lv_if_ne (tgt := 77) C.1 C.2.1 dX0_markCompacted_69 (by decide) (fun c_15 => ?_) (fun c_15 => ?_)
              · refine lv_iconst (v := 1) C.1 C.2.1 dX0_markCompacted_77 (by decide) ?_
                refine lv_goto (tgt := 82) C.1 C.2.1 dX0_markCompacted_78 (by decide) ?_
                refine gZast (j := k) (ws' := (xW E a S (mkU (gComp (s_off S) (s_key S) (s_val S) (s_n S) q) mk (k + 1)) rk rv ++ F)) C hO 6 rfl (by omega) (by decide) rfl (by rw [mkU_sv (g := gComp (s_off S) (s_key S) (s_val S) (s_n S) q) (mk := mk) (n := k) (x := 1) (by first | exact gComp_1 (Or.inl h1) | exact gComp_1 (Or.inr ⟨hv, ho⟩))]; rfl) dX0_markCompacted_82 (fun H locs hO => ?_)
                refine gInc (j := k) (k := 4) (lv' := [(2, .int (nI (k + 1))), (4, .int 1), (3, .int 1), (0, .ref (a 1)), (1, .int q)]) C.1 C.2.1 dX0_markCompacted_83 hl rfl (by decide) rfl (fun ls hl => ?_)
                refine lv_goto (tgt := 2) C.1 C.2.1 dX0_markCompacted_86 (by decide) ?_
                refine W.widen (k := 0) (n := 0) (by omega) (by omega) ?_
                exact ih_lp24 (k + 1) (by omega) (by omega) _ _ hO _ (lv_sub hl [3, 4, 0] rfl)
              · exact absurd c_15 (by decide)
  exact lp24 (s_n S + 1) 0 (by omega) (Nat.zero_le _) _ _ hO _ (lv_sub hl [1, 2, 0] rfl)

set_option maxHeartbeats 4000000 in
set_option maxRecDepth 100000 in
theorem c_X0_countMarkedFrom (l : Launch) (E : gE) (a : Nat → Nat) (S : St) (mk rk rv : Nat → Int32) (F : va_W) (o : Int32) (hn : s_n S ≤ 48) : gMi l E yX0_countMarkedFrom wsX0_countMarkedFrom ({ frames := 1, cells := 0, slots := 0, locals := 22 }) (xW E a S mk rk rv ++ F) [.ref (a 1), .int o] (nI (cm mk (pf (s_off S) o (s_n S)) (s_n S))) (xW E a S mk rk rv ++ F) 0 0 := by
  refine gMi.of (cc := cX0_countMarkedFrom) (maxL := 4) (ty := .int) (by decide) rfl (Nat.le_of_ble_eq_true rfl) ?_
  intro p e s m args below meth c A C ls hl hO
  have hl : lv_has ls 4 [(0, .ref (a 1)), (1, .int o)] := hl
  have iX0 : ∀ w ∈ u_ws RX0 TX0 8, w ∈ wsX0_countMarkedFrom := by decide +kernel
  have w28 : Cond.fieldLink RX0 28 "ParrotLog$Log" "size" "I" ∈ wsX0_countMarkedFrom := by decide +kernel
  have w24 : Cond.fieldLink RX0 24 "ParrotLog$Log" "marked" "[Z" ∈ wsX0_countMarkedFrom := by decide +kernel
  refine lv_iconst (v := 0) C.1 C.2.1 dX0_countMarkedFrom_0 (by decide) ?_
  refine lv_istore_n (lv' := [(2, .int 0), (0, .ref (a 1)), (1, .int o)]) C.1 C.2.1 dX0_countMarkedFrom_1 rfl hl (by decide) rfl (fun ls hl => ?_)
  refine lv_aload_n C.1 C.2.1 dX0_countMarkedFrom_2 rfl (lv_at hl 1 rfl) ?_
  refine lv_iload_n C.1 C.2.1 dX0_countMarkedFrom_3 rfl (lv_at hl 2 rfl) ?_
  refine gCall_i (As := [.int o]) (rest := []) C hO (c_X0_positionFrom l E a S mk rk rv F o (by omega)) (cwV 1 C.2.2.2.2.1 gX0_countMarkedFrom_X0_positionFrom rfl rfl rfl (by decide +kernel) ⟨(Nat.le_of_ble_eq_true rfl), (Nat.le_of_ble_eq_true rfl)⟩) (va_recv C.2.2.2.2.2.2.2.1.1 hO.1 (ci := 0) (q0 := 1) rfl rfl) rfl hl.1 rfl (Nat.le_of_ble_eq_true rfl) dX0_countMarkedFrom_4 ⟨(Nat.le_of_ble_eq_true rfl), (Nat.le_of_ble_eq_true rfl)⟩ (fun H locs hO => ?_)
  refine lv_istore_n (lv' := [(3, .int (nI (pf (s_off S) o (s_n S)))), (2, .int 0), (0, .ref (a 1)), (1, .int o)]) C.1 C.2.1 dX0_countMarkedFrom_7 rfl hl (by decide) rfl (fun ls hl => ?_)
  have lp24 : ∀ (f : Nat) (k : Nat) (c2 : Nat), (s_n S + 1 ≤ k + f) → (k ≤ s_n S) → (pf (s_off S) o (s_n S) ≤ k) → (c2 = cm mk (pf (s_off S) o (s_n S)) k) → ∀ (H : Heap) (locs : List Loc), gO E A s (xW E a S mk rk rv ++ F) H locs → ∀ ls : Array Slot, lv_has ls 4 [(0, .ref (a 1)), (1, .int o), (2, .int (nI c2)), (3, .int (nI k))] → W p l e ({ frames := 1, cells := 0, slots := 0, locals := 22 } : Room) s m args below meth c H locs 0 0 (MQ below (gQi E A (nI (cm mk (pf (s_off S) o (s_n S)) (s_n S))) (xW E a S mk rk rv ++ F)) args s 0 0 A) (F0 m 8 ls []) := by
    intro f
    induction f with
    | zero =>
      intro k c2 hf hk hfr hc24
      exact absurd hf (by omega)
    | succ f ih_lp24 =>
      intro k c2 hf hk hfr hc24 H locs hO ls hl
      refine lv_iload_n C.1 C.2.1 dX0_countMarkedFrom_8 rfl (lv_at hl 3 rfl) ?_
      refine lv_aload_n C.1 C.2.1 dX0_countMarkedFrom_9 rfl (lv_at hl 0 rfl) ?_
      refine gGet (v := .int (nI (s_n S))) (ref := RX0) (Cn := RX0) (T := TX0) (N := 8) C iX0 hO 1 rfl rfl 5 (by decide) w28 (fun _ h9 => h9) rfl dX0_countMarkedFrom_10 ?_
      refine gGeN (x := k) (y := (s_n S)) (tgt := 34) C.1 C.2.1 (by omega) (by omega) dX0_countMarkedFrom_13 (by decide) (fun c_1 => ?_) (fun c_1 => ?_)
      · refine lv_iload_n C.1 C.2.1 dX0_countMarkedFrom_34 rfl (lv_at hl 2 rfl) ?_
        exact gRi C hO rfl (by rw [hc24, show k = s_n S by omega]) dX0_countMarkedFrom_35 (Nat.le_of_ble_eq_true rfl) (Nat.le_of_ble_eq_true rfl)
      · refine lv_aload_n C.1 C.2.1 dX0_countMarkedFrom_16 rfl (lv_at hl 0 rfl) ?_
        refine gGet (v := .ref (a 6)) (ref := RX0) (Cn := RX0) (T := TX0) (N := 8) C iX0 hO 1 rfl rfl 4 (by decide) w24 (fun _ h9 => h9) rfl dX0_countMarkedFrom_17 ?_
        refine lv_iload_n C.1 C.2.1 dX0_countMarkedFrom_20 rfl (lv_at hl 3 rfl) ?_
        refine gZald (v := mk k) (j := k) C hO 6 rfl (by omega) (by decide) rfl dX0_countMarkedFrom_21 ?_
        refine lv_if_eq (tgt := 28) C.1 C.2.1 dX0_countMarkedFrom_22 (by decide) (fun c_2 => ?_) (fun c_2 => ?_)
        · have hz : mk k = 0 := c_2
          refine gInc (j := k) (k := 3) (lv' := [(3, .int (nI (k + 1))), (0, .ref (a 1)), (1, .int o), (2, .int (nI c2))]) C.1 C.2.1 dX0_countMarkedFrom_28 hl rfl (by decide) rfl (fun ls hl => ?_)
          refine lv_goto (tgt := 8) C.1 C.2.1 dX0_countMarkedFrom_31 (by decide) ?_
          exact ih_lp24 (k + 1) c2 (by omega) (by omega) (by omega) (by first | exact by rw [hc24, cm_s0 hz] | exact by rw [hc24, cm_s1 hfr hz]) _ _ hO _ (lv_sub hl [1, 2, 3, 0] rfl)
        · have hz : ¬ mk k = 0 := c_2
          refine gInc (j := c2) (k := 2) (lv' := [(2, .int (nI (c2 + 1))), (0, .ref (a 1)), (1, .int o), (3, .int (nI k))]) C.1 C.2.1 dX0_countMarkedFrom_25 hl rfl (by decide) rfl (fun ls hl => ?_)
          refine gInc (j := k) (k := 3) (lv' := [(3, .int (nI (k + 1))), (2, .int (nI (c2 + 1))), (0, .ref (a 1)), (1, .int o)]) C.1 C.2.1 dX0_countMarkedFrom_28 hl rfl (by decide) rfl (fun ls hl => ?_)
          refine lv_goto (tgt := 8) C.1 C.2.1 dX0_countMarkedFrom_31 (by decide) ?_
          exact ih_lp24 (k + 1) (c2 + 1) (by omega) (by omega) (by omega) (by first | exact by rw [hc24, cm_s0 hz] | exact by rw [hc24, cm_s1 hfr hz]) _ _ hO _ (lv_sub hl [2, 3, 1, 0] rfl)
  refine W.widen (k := 0) (n := 0) (by omega) (by omega) ?_
  exact lp24 (s_n S + 1) (pf (s_off S) o (s_n S)) 0 (by omega) (pf_le _ _ _) (Nat.le_refl _) ((cm_fr _ _ _ (Nat.le_refl _)).symm) _ _ hO _ (lv_sub hl [2, 3, 1, 0] rfl)

set_option maxHeartbeats 4000000 in
set_option maxRecDepth 100000 in
theorem c_X0_countMarked (l : Launch) (E : gE) (a : Nat → Nat) (S : St) (mk rk rv : Nat → Int32) (F : va_W)  (hn : s_n S ≤ 48) : gMi l E yX0_countMarked wsX0_countMarked ({ frames := 2, cells := 0, slots := 0, locals := 45 }) (xW E a S mk rk rv ++ F) [.ref (a 1)] (nI (cm mk (pf (s_off S) 0 (s_n S)) (s_n S))) (xW E a S mk rk rv ++ F) 0 0 := by
  refine gMi.of (cc := cX0_countMarked) (maxL := 1) (ty := .int) (by decide) rfl (Nat.le_of_ble_eq_true rfl) ?_
  intro p e s m args below meth c A C ls hl hO
  have hl : lv_has ls 1 [(0, .ref (a 1))] := hl
  refine lv_aload_n C.1 C.2.1 dX0_countMarked_0 rfl (lv_at hl 0 rfl) ?_
  refine lv_iconst (v := 0) C.1 C.2.1 dX0_countMarked_1 (by decide) ?_
  refine gCall_i (As := [.int 0]) (rest := []) C hO (c_X0_countMarkedFrom l E a S mk rk rv F 0 (by omega)) (cwV 1 C.2.2.2.2.1 gX0_countMarked_X0_countMarkedFrom rfl rfl rfl (by decide +kernel) ⟨(Nat.le_of_ble_eq_true rfl), (Nat.le_of_ble_eq_true rfl)⟩) (va_recv C.2.2.2.2.2.2.2.1.1 hO.1 (ci := 0) (q0 := 1) rfl rfl) rfl hl.1 rfl (Nat.le_of_ble_eq_true rfl) dX0_countMarked_2 ⟨(Nat.le_of_ble_eq_true rfl), (Nat.le_of_ble_eq_true rfl)⟩ (fun H locs hO => ?_)
  exact gRi C hO rfl rfl dX0_countMarked_5 (Nat.le_of_ble_eq_true rfl) (Nat.le_of_ble_eq_true rfl)

set_option maxHeartbeats 4000000 in
set_option maxRecDepth 100000 in
theorem c_X0_removeMarked (l : Launch) (E : gE) (a : Nat → Nat) (S : St) (mk rk rv : Nat → Int32) (F : va_W)  (hn : s_n S ≤ 48) : gMi l E yX0_removeMarked wsX0_removeMarked ({ frames := 0, cells := 0, slots := 0, locals := 0 }) (xW E a S mk rk rv ++ F) [.ref (a 1)] (nI (s_n S - cpN mk (s_n S))) (xW E a (S_rem S mk) mk rk rv ++ F) 0 0 := by
  refine gMi.of (cc := cX0_removeMarked) (maxL := 3) (ty := .int) (by decide) rfl (Nat.le_of_ble_eq_true rfl) ?_
  intro p e s m args below meth c A C ls hl hO
  have hl : lv_has ls 3 [(0, .ref (a 1))] := hl
  have iX0 : ∀ w ∈ u_ws RX0 TX0 8, w ∈ wsX0_removeMarked := by decide +kernel
  have w28 : Cond.fieldLink RX0 28 "ParrotLog$Log" "size" "I" ∈ wsX0_removeMarked := by decide +kernel
  have w46 : Cond.fieldLink RX0 46 "ParrotLog$Log" "droppedInAll" "I" ∈ wsX0_removeMarked := by decide +kernel
  have w24 : Cond.fieldLink RX0 24 "ParrotLog$Log" "marked" "[Z" ∈ wsX0_removeMarked := by decide +kernel
  have w9 : Cond.fieldLink RX0 9 "ParrotLog$Log" "offsets" "[I" ∈ wsX0_removeMarked := by decide +kernel
  have w15 : Cond.fieldLink RX0 15 "ParrotLog$Log" "keys" "[I" ∈ wsX0_removeMarked := by decide +kernel
  have w18 : Cond.fieldLink RX0 18 "ParrotLog$Log" "values" "[I" ∈ wsX0_removeMarked := by decide +kernel
  have w21 : Cond.fieldLink RX0 21 "ParrotLog$Log" "stormNumbers" "[I" ∈ wsX0_removeMarked := by decide +kernel
  refine lv_iconst (v := 0) C.1 C.2.1 dX0_removeMarked_0 (by decide) ?_
  refine lv_istore_n (lv' := [(1, .int 0), (0, .ref (a 1))]) C.1 C.2.1 dX0_removeMarked_1 rfl hl (by decide) rfl (fun ls hl => ?_)
  refine lv_iconst (v := 0) C.1 C.2.1 dX0_removeMarked_2 (by decide) ?_
  refine lv_istore_n (lv' := [(2, .int 0), (1, .int 0), (0, .ref (a 1))]) C.1 C.2.1 dX0_removeMarked_3 rfl hl (by decide) rfl (fun ls hl => ?_)
  have lp24 : ∀ (f : Nat) (k : Nat), (s_n S + 1 ≤ k + f) → (k ≤ s_n S) → ∀ (H : Heap) (locs : List Loc), gO E A s (xW E a (mkS (cpF mk (s_off S) (k)) (cpF mk (s_key S) (k)) (cpF mk (s_val S) (k)) (cpF mk (s_sto S) (k)) (s_n S) (s_nx S) (s_dr S) (s_hr S) (s_sc S) (s_on S) (s_said S) (s_sh S) (s_pc S) (s_at S) (s_hd S) (s_ms S) (s_kn S)) mk rk rv ++ F) H locs → ∀ ls : Array Slot, lv_has ls 3 [(0, .ref (a 1)), (1, .int (nI (cpN mk k))), (2, .int (nI k))] → W p l e ({ frames := 0, cells := 0, slots := 0, locals := 0 } : Room) s m args below meth c H locs 0 0 (MQ below (gQi E A (nI (s_n S - cpN mk (s_n S))) (xW E a (S_rem S mk) mk rk rv ++ F)) args s 0 0 A) (F0 m 4 ls []) := by
    intro f
    induction f with
    | zero =>
      intro k hf hk
      exact absurd hf (by omega)
    | succ f ih_lp24 =>
      intro k hf hk H locs hO ls hl
      refine lv_iload_n C.1 C.2.1 dX0_removeMarked_4 rfl (lv_at hl 2 rfl) ?_
      refine lv_aload_n C.1 C.2.1 dX0_removeMarked_5 rfl (lv_at hl 0 rfl) ?_
      refine gGet (v := .int (nI (s_n S))) (ref := RX0) (Cn := RX0) (T := TX0) (N := 8) C iX0 hO 1 rfl rfl 5 (by decide) w28 (fun _ h9 => h9) rfl dX0_removeMarked_6 ?_
      refine gGeN (x := k) (y := (s_n S)) (tgt := 78) C.1 C.2.1 (by omega) (by omega) dX0_removeMarked_9 (by decide) (fun c_1 => ?_) (fun c_1 => ?_)
      · have hk9 : k = s_n S := by omega
        rw [hk9] at hO hl
        have hl := lv_sub hl [0, 1] rfl
        have hl : lv_has ls 3 [(0, .ref (a 1)), (1, .int (nI (cpN mk (s_n S))))] := hl
        have hle := cpN_le mk (s_n S)
        refine lv_aload_n C.1 C.2.1 dX0_removeMarked_78 rfl (lv_at hl 0 rfl) ?_
        refine gGet (v := .int (nI (s_n S))) (ref := RX0) (Cn := RX0) (T := TX0) (N := 8) C iX0 hO 1 rfl rfl 5 (by decide) w28 (fun _ h9 => h9) rfl dX0_removeMarked_79 ?_
        refine lv_iload_n C.1 C.2.1 dX0_removeMarked_82 rfl (lv_at hl 1 rfl) ?_
        refine gSubN (x := (s_n S)) (y := (cpN mk (s_n S))) C.1 C.2.1 hle dX0_removeMarked_83 ?_
        refine lv_istore_n (lv' := [(2, .int (nI ((s_n S) - (cpN mk (s_n S))))), (0, .ref (a 1)), (1, .int (nI (cpN mk (s_n S))))]) C.1 C.2.1 dX0_removeMarked_84 rfl hl (by decide) rfl (fun ls hl => ?_)
        refine lv_aload_n C.1 C.2.1 dX0_removeMarked_85 rfl (lv_at hl 1 rfl) ?_
        refine lv_iload_n C.1 C.2.1 dX0_removeMarked_86 rfl (lv_at hl 2 rfl) ?_
        refine gPut (ws' := (xW E a (mkS (cpF mk (s_off S) (s_n S)) (cpF mk (s_key S) (s_n S)) (cpF mk (s_val S) (s_n S)) (cpF mk (s_sto S) (s_n S)) (cpN mk (s_n S)) (s_nx S) (s_dr S) (s_hr S) (s_sc S) (s_on S) (s_said S) (s_sh S) (s_pc S) (s_at S) (s_hd S) (s_ms S) (s_kn S)) mk rk rv ++ F)) (ref := RX0) (Cn := RX0) (T := TX0) (N := 8) C iX0 tyX0 tyX0_ok nmX0 hO 1 rfl rfl 5 (by decide) w28 (fun _ h9 => h9) rfl (by decide +kernel) rfl rfl (Nat.le_of_ble_eq_true rfl) rfl dX0_removeMarked_87 (fun H locs hO => ?_)
        refine lv_aload_n C.1 C.2.1 dX0_removeMarked_90 rfl (lv_at hl 1 rfl) ?_
        refine lv_dup C.1 C.2.1 dX0_removeMarked_91 rfl ?_
        refine gGet (v := .int (s_dr S)) (ref := RX0) (Cn := RX0) (T := TX0) (N := 8) C iX0 hO 1 rfl rfl 7 (by decide) w46 (fun _ h9 => h9) rfl dX0_removeMarked_92 ?_
        refine lv_iload_n C.1 C.2.1 dX0_removeMarked_95 rfl (lv_at hl 0 rfl) ?_
        refine lv_iadd C.1 C.2.1 dX0_removeMarked_96 ?_
        refine gPut (ws' := (xW E a (mkS (cpF mk (s_off S) (s_n S)) (cpF mk (s_key S) (s_n S)) (cpF mk (s_val S) (s_n S)) (cpF mk (s_sto S) (s_n S)) (cpN mk (s_n S)) (s_nx S) ((s_dr S) + (nI ((s_n S) - (cpN mk (s_n S))))) (s_hr S) (s_sc S) (s_on S) (s_said S) (s_sh S) (s_pc S) (s_at S) (s_hd S) (s_ms S) (s_kn S)) mk rk rv ++ F)) (ref := RX0) (Cn := RX0) (T := TX0) (N := 8) C iX0 tyX0 tyX0_ok nmX0 hO 1 rfl rfl 7 (by decide) w46 (fun _ h9 => h9) rfl (by decide +kernel) rfl rfl (Nat.le_of_ble_eq_true rfl) rfl dX0_removeMarked_97 (fun H locs hO => ?_)
        refine lv_iload_n C.1 C.2.1 dX0_removeMarked_100 rfl (lv_at hl 0 rfl) ?_
        exact gRi C hO rfl rfl dX0_removeMarked_101 (Nat.le_of_ble_eq_true rfl) (Nat.le_of_ble_eq_true rfl)
      · have hle := cpN_le mk k
        refine lv_aload_n C.1 C.2.1 dX0_removeMarked_12 rfl (lv_at hl 0 rfl) ?_
        refine gGet (v := .ref (a 6)) (ref := RX0) (Cn := RX0) (T := TX0) (N := 8) C iX0 hO 1 rfl rfl 4 (by decide) w24 (fun _ h9 => h9) rfl dX0_removeMarked_13 ?_
        refine lv_iload_n C.1 C.2.1 dX0_removeMarked_16 rfl (lv_at hl 2 rfl) ?_
        refine gZald (v := mk k) (j := k) C hO 6 rfl (by omega) (by decide) rfl dX0_removeMarked_17 ?_
        refine lv_if_ne (tgt := 72) C.1 C.2.1 dX0_removeMarked_18 (by decide) (fun c_2 => ?_) (fun c_2 => ?_)
        · have hz : ¬ mk k = 0 := c_2
          have hO : gO E A s (xW E a (mkS (cpF mk (s_off S) (k + 1)) (cpF mk (s_key S) (k + 1)) (cpF mk (s_val S) (k + 1)) (cpF mk (s_sto S) (k + 1)) (s_n S) (s_nx S) (s_dr S) (s_hr S) (s_sc S) (s_on S) (s_said S) (s_sh S) (s_pc S) (s_at S) (s_hd S) (s_ms S) (s_kn S)) mk rk rv ++ F) H locs := by rw [cf_s0 hz, cf_s0 hz, cf_s0 hz, cf_s0 hz]; exact hO
          have hl : lv_has ls 3 [(0, .ref (a 1)), (1, .int (nI (cpN mk (k + 1)))), (2, .int (nI k))] := by rw [cp_s0 hz]; exact hl
          refine gInc (j := k) (k := 2) (lv' := [(2, .int (nI (k + 1))), (0, .ref (a 1)), (1, .int (nI (cpN mk (k + 1))))]) C.1 C.2.1 dX0_removeMarked_72 hl rfl (by decide) rfl (fun ls hl => ?_)
          refine lv_goto (tgt := 4) C.1 C.2.1 dX0_removeMarked_75 (by decide) ?_
          exact ih_lp24 (k + 1) (by omega) (by omega) _ _ hO _ (lv_sub hl [1, 2, 0] rfl)
        · have hz : mk k = 0 := c_2
          refine lv_aload_n C.1 C.2.1 dX0_removeMarked_21 rfl (lv_at hl 0 rfl) ?_
          refine gGet (v := .ref (a 2)) (ref := RX0) (Cn := RX0) (T := TX0) (N := 8) C iX0 hO 1 rfl rfl 0 (by decide) w9 (fun _ h9 => h9) rfl dX0_removeMarked_22 ?_
          refine lv_iload_n C.1 C.2.1 dX0_removeMarked_25 rfl (lv_at hl 1 rfl) ?_
          refine lv_aload_n C.1 C.2.1 dX0_removeMarked_26 rfl (lv_at hl 0 rfl) ?_
          refine gGet (v := .ref (a 2)) (ref := RX0) (Cn := RX0) (T := TX0) (N := 8) C iX0 hO 1 rfl rfl 0 (by decide) w9 (fun _ h9 => h9) rfl dX0_removeMarked_27 ?_
          refine lv_iload_n C.1 C.2.1 dX0_removeMarked_30 rfl (lv_at hl 2 rfl) ?_
          refine gIald (v := (cpF mk (s_off S) (k)) k) (j := k) C hO 2 rfl (by omega) (by decide) rfl dX0_removeMarked_31 ?_
          refine gIast (j := (cpN mk k)) (ws' := (xW E a (mkS (upd (cpF mk (s_off S) (k)) (cpN mk k) ((cpF mk (s_off S) (k)) k)) (cpF mk (s_key S) (k)) (cpF mk (s_val S) (k)) (cpF mk (s_sto S) (k)) (s_n S) (s_nx S) (s_dr S) (s_hr S) (s_sc S) (s_on S) (s_said S) (s_sh S) (s_pc S) (s_at S) (s_hd S) (s_ms S) (s_kn S)) mk rk rv ++ F)) C hO 2 rfl (by omega) (by decide) rfl dX0_removeMarked_32 (fun H locs hO => ?_)
          refine lv_aload_n C.1 C.2.1 dX0_removeMarked_33 rfl (lv_at hl 0 rfl) ?_
          refine gGet (v := .ref (a 3)) (ref := RX0) (Cn := RX0) (T := TX0) (N := 8) C iX0 hO 1 rfl rfl 1 (by decide) w15 (fun _ h9 => h9) rfl dX0_removeMarked_34 ?_
          refine lv_iload_n C.1 C.2.1 dX0_removeMarked_37 rfl (lv_at hl 1 rfl) ?_
          refine lv_aload_n C.1 C.2.1 dX0_removeMarked_38 rfl (lv_at hl 0 rfl) ?_
          refine gGet (v := .ref (a 3)) (ref := RX0) (Cn := RX0) (T := TX0) (N := 8) C iX0 hO 1 rfl rfl 1 (by decide) w15 (fun _ h9 => h9) rfl dX0_removeMarked_39 ?_
          refine lv_iload_n C.1 C.2.1 dX0_removeMarked_42 rfl (lv_at hl 2 rfl) ?_
          refine gIald (v := (cpF mk (s_key S) (k)) k) (j := k) C hO 3 rfl (by omega) (by decide) rfl dX0_removeMarked_43 ?_
          refine gIast (j := (cpN mk k)) (ws' := (xW E a (mkS (upd (cpF mk (s_off S) (k)) (cpN mk k) ((cpF mk (s_off S) (k)) k)) (upd (cpF mk (s_key S) (k)) (cpN mk k) ((cpF mk (s_key S) (k)) k)) (cpF mk (s_val S) (k)) (cpF mk (s_sto S) (k)) (s_n S) (s_nx S) (s_dr S) (s_hr S) (s_sc S) (s_on S) (s_said S) (s_sh S) (s_pc S) (s_at S) (s_hd S) (s_ms S) (s_kn S)) mk rk rv ++ F)) C hO 3 rfl (by omega) (by decide) rfl dX0_removeMarked_44 (fun H locs hO => ?_)
          refine lv_aload_n C.1 C.2.1 dX0_removeMarked_45 rfl (lv_at hl 0 rfl) ?_
          refine gGet (v := .ref (a 4)) (ref := RX0) (Cn := RX0) (T := TX0) (N := 8) C iX0 hO 1 rfl rfl 2 (by decide) w18 (fun _ h9 => h9) rfl dX0_removeMarked_46 ?_
          refine lv_iload_n C.1 C.2.1 dX0_removeMarked_49 rfl (lv_at hl 1 rfl) ?_
          refine lv_aload_n C.1 C.2.1 dX0_removeMarked_50 rfl (lv_at hl 0 rfl) ?_
          refine gGet (v := .ref (a 4)) (ref := RX0) (Cn := RX0) (T := TX0) (N := 8) C iX0 hO 1 rfl rfl 2 (by decide) w18 (fun _ h9 => h9) rfl dX0_removeMarked_51 ?_
          refine lv_iload_n C.1 C.2.1 dX0_removeMarked_54 rfl (lv_at hl 2 rfl) ?_
          refine gIald (v := (cpF mk (s_val S) (k)) k) (j := k) C hO 4 rfl (by omega) (by decide) rfl dX0_removeMarked_55 ?_
          refine gIast (j := (cpN mk k)) (ws' := (xW E a (mkS (upd (cpF mk (s_off S) (k)) (cpN mk k) ((cpF mk (s_off S) (k)) k)) (upd (cpF mk (s_key S) (k)) (cpN mk k) ((cpF mk (s_key S) (k)) k)) (upd (cpF mk (s_val S) (k)) (cpN mk k) ((cpF mk (s_val S) (k)) k)) (cpF mk (s_sto S) (k)) (s_n S) (s_nx S) (s_dr S) (s_hr S) (s_sc S) (s_on S) (s_said S) (s_sh S) (s_pc S) (s_at S) (s_hd S) (s_ms S) (s_kn S)) mk rk rv ++ F)) C hO 4 rfl (by omega) (by decide) rfl dX0_removeMarked_56 (fun H locs hO => ?_)
          refine lv_aload_n C.1 C.2.1 dX0_removeMarked_57 rfl (lv_at hl 0 rfl) ?_
          refine gGet (v := .ref (a 5)) (ref := RX0) (Cn := RX0) (T := TX0) (N := 8) C iX0 hO 1 rfl rfl 3 (by decide) w21 (fun _ h9 => h9) rfl dX0_removeMarked_58 ?_
          refine lv_iload_n C.1 C.2.1 dX0_removeMarked_61 rfl (lv_at hl 1 rfl) ?_
          refine lv_aload_n C.1 C.2.1 dX0_removeMarked_62 rfl (lv_at hl 0 rfl) ?_
          refine gGet (v := .ref (a 5)) (ref := RX0) (Cn := RX0) (T := TX0) (N := 8) C iX0 hO 1 rfl rfl 3 (by decide) w21 (fun _ h9 => h9) rfl dX0_removeMarked_63 ?_
          refine lv_iload_n C.1 C.2.1 dX0_removeMarked_66 rfl (lv_at hl 2 rfl) ?_
          refine gIald (v := (cpF mk (s_sto S) (k)) k) (j := k) C hO 5 rfl (by omega) (by decide) rfl dX0_removeMarked_67 ?_
          refine gIast (j := (cpN mk k)) (ws' := (xW E a (mkS (upd (cpF mk (s_off S) (k)) (cpN mk k) ((cpF mk (s_off S) (k)) k)) (upd (cpF mk (s_key S) (k)) (cpN mk k) ((cpF mk (s_key S) (k)) k)) (upd (cpF mk (s_val S) (k)) (cpN mk k) ((cpF mk (s_val S) (k)) k)) (upd (cpF mk (s_sto S) (k)) (cpN mk k) ((cpF mk (s_sto S) (k)) k)) (s_n S) (s_nx S) (s_dr S) (s_hr S) (s_sc S) (s_on S) (s_said S) (s_sh S) (s_pc S) (s_at S) (s_hd S) (s_ms S) (s_kn S)) mk rk rv ++ F)) C hO 5 rfl (by omega) (by decide) rfl dX0_removeMarked_68 (fun H locs hO => ?_)
          refine gInc (j := (cpN mk k)) (k := 1) (lv' := [(1, .int (nI ((cpN mk k) + 1))), (0, .ref (a 1)), (2, .int (nI k))]) C.1 C.2.1 dX0_removeMarked_69 hl rfl (by decide) rfl (fun ls hl => ?_)
          have hO : gO E A s (xW E a (mkS (cpF mk (s_off S) (k + 1)) (cpF mk (s_key S) (k + 1)) (cpF mk (s_val S) (k + 1)) (cpF mk (s_sto S) (k + 1)) (s_n S) (s_nx S) (s_dr S) (s_hr S) (s_sc S) (s_on S) (s_said S) (s_sh S) (s_pc S) (s_at S) (s_hd S) (s_ms S) (s_kn S)) mk rk rv ++ F) H locs := by rw [cf_s1 hz, cf_s1 hz, cf_s1 hz, cf_s1 hz]; exact hO
          have hl : lv_has ls 3 [(1, .int (nI (cpN mk (k + 1)))), (0, .ref (a 1)), (2, .int (nI k))] := by rw [cp_s1 hz]; exact hl
          refine gInc (j := k) (k := 2) (lv' := [(2, .int (nI (k + 1))), (1, .int (nI (cpN mk (k + 1)))), (0, .ref (a 1))]) C.1 C.2.1 dX0_removeMarked_72 hl rfl (by decide) rfl (fun ls hl => ?_)
          refine lv_goto (tgt := 4) C.1 C.2.1 dX0_removeMarked_75 (by decide) ?_
          exact ih_lp24 (k + 1) (by omega) (by omega) _ _ hO _ (lv_sub hl [2, 1, 0] rfl)
  exact lp24 (s_n S + 1) 0 (by omega) (Nat.zero_le _) _ _ hO _ (lv_sub hl [2, 1, 0] rfl)

set_option maxHeartbeats 4000000 in
set_option maxRecDepth 100000 in
theorem c_X0_positionOf (l : Launch) (E : gE) (a : Nat → Nat) (S : St) (mk rk rv : Nat → Int32) (F : va_W) (o : Int32) (hn : s_n S ≤ 48) : gMi l E yX0_positionOf wsX0_positionOf ({ frames := 1, cells := 0, slots := 0, locals := 22 }) (xW E a S mk rk rv ++ F) [.ref (a 1), .int o] (oI (s_po S o)) (xW E a S mk rk rv ++ F) 0 0 := by
  refine gMi.of (cc := cX0_positionOf) (maxL := 3) (ty := .int) (by decide) rfl (Nat.le_of_ble_eq_true rfl) ?_
  intro p e s m args below meth c A C ls hl hO
  have hl : lv_has ls 3 [(0, .ref (a 1)), (1, .int o)] := hl
  have iX0 : ∀ w ∈ u_ws RX0 TX0 8, w ∈ wsX0_positionOf := by decide +kernel
  have w28 : Cond.fieldLink RX0 28 "ParrotLog$Log" "size" "I" ∈ wsX0_positionOf := by decide +kernel
  have w9 : Cond.fieldLink RX0 9 "ParrotLog$Log" "offsets" "[I" ∈ wsX0_positionOf := by decide +kernel
  refine lv_aload_n C.1 C.2.1 dX0_positionOf_0 rfl (lv_at hl 0 rfl) ?_
  refine lv_iload_n C.1 C.2.1 dX0_positionOf_1 rfl (lv_at hl 1 rfl) ?_
  refine gCall_i (As := [.int o]) (rest := []) C hO (c_X0_positionFrom l E a S mk rk rv F o (by omega)) (cwV 1 C.2.2.2.2.1 gX0_positionOf_X0_positionFrom rfl rfl rfl (by decide +kernel) ⟨(Nat.le_of_ble_eq_true rfl), (Nat.le_of_ble_eq_true rfl)⟩) (va_recv C.2.2.2.2.2.2.2.1.1 hO.1 (ci := 0) (q0 := 1) rfl rfl) rfl hl.1 rfl (Nat.le_of_ble_eq_true rfl) dX0_positionOf_2 ⟨(Nat.le_of_ble_eq_true rfl), (Nat.le_of_ble_eq_true rfl)⟩ (fun H locs hO => ?_)
  refine lv_istore_n (lv' := [(2, .int (nI (pf (s_off S) o (s_n S)))), (0, .ref (a 1)), (1, .int o)]) C.1 C.2.1 dX0_positionOf_5 rfl hl (by decide) rfl (fun ls hl => ?_)
  have hle := pf_le (s_off S) o (s_n S)
  refine lv_iload_n C.1 C.2.1 dX0_positionOf_6 rfl (lv_at hl 0 rfl) ?_
  refine lv_aload_n C.1 C.2.1 dX0_positionOf_7 rfl (lv_at hl 1 rfl) ?_
  refine gGet (v := .int (nI (s_n S))) (ref := RX0) (Cn := RX0) (T := TX0) (N := 8) C iX0 hO 1 rfl rfl 5 (by decide) w28 (fun _ h9 => h9) rfl dX0_positionOf_8 ?_
  refine gGeN (x := (pf (s_off S) o (s_n S))) (y := (s_n S)) (tgt := 28) C.1 C.2.1 (by omega) (by omega) dX0_positionOf_11 (by decide) (fun c_1 => ?_) (fun c_1 => ?_)
  · have hz : s_po S o = none := s_po_0 (fun h => by have := h.1; omega)
    refine lv_iconst (v := (-1)) C.1 C.2.1 dX0_positionOf_28 (by decide) ?_
    exact gRi C hO rfl (by rw [hz]; rfl) dX0_positionOf_29 (Nat.le_of_ble_eq_true rfl) (Nat.le_of_ble_eq_true rfl)
  · refine lv_aload_n C.1 C.2.1 dX0_positionOf_14 rfl (lv_at hl 1 rfl) ?_
    refine gGet (v := .ref (a 2)) (ref := RX0) (Cn := RX0) (T := TX0) (N := 8) C iX0 hO 1 rfl rfl 0 (by decide) w9 (fun _ h9 => h9) rfl dX0_positionOf_15 ?_
    refine lv_iload_n C.1 C.2.1 dX0_positionOf_18 rfl (lv_at hl 0 rfl) ?_
    refine gIald (v := (s_off S) (pf (s_off S) o (s_n S))) (j := (pf (s_off S) o (s_n S))) C hO 2 rfl (by omega) (by decide) rfl dX0_positionOf_19 ?_
    refine lv_iload_n C.1 C.2.1 dX0_positionOf_20 rfl (lv_at hl 2 rfl) ?_
    refine lv_icmp_ne (tgt := 28) C.1 C.2.1 dX0_positionOf_21 (by decide) (fun c_2 => ?_) (fun c_2 => ?_)
    · have hz : s_po S o = none := s_po_0 (fun h => c_2 h.2)
      refine lv_iconst (v := (-1)) C.1 C.2.1 dX0_positionOf_28 (by decide) ?_
      exact gRi C hO rfl (by rw [hz]; rfl) dX0_positionOf_29 (Nat.le_of_ble_eq_true rfl) (Nat.le_of_ble_eq_true rfl)
    · have hz : s_po S o = some (pf (s_off S) o (s_n S)) := s_po_1 (by omega) c_2
      refine lv_iload_n C.1 C.2.1 dX0_positionOf_24 rfl (lv_at hl 0 rfl) ?_
      refine lv_goto (tgt := 29) C.1 C.2.1 dX0_positionOf_25 (by decide) ?_
      exact gRi C hO rfl (by rw [hz]; rfl) dX0_positionOf_29 (Nat.le_of_ble_eq_true rfl) (Nat.le_of_ble_eq_true rfl)

set_option maxHeartbeats 4000000 in
set_option maxRecDepth 100000 in
theorem c_X0_latestOffset (l : Launch) (E : gE) (a : Nat → Nat) (S : St) (mk rk rv : Nat → Int32) (F : va_W) (k : Int32) (hn : s_n S ≤ 48) : gMi l E yX0_latestOffset wsX0_latestOffset ({ frames := 1, cells := 0, slots := 0, locals := 24 }) (xW E a S mk rk rv ++ F) [.ref (a 1), .int k] (s_lo S k) (xW E a S mk rk rv ++ F) 0 0 := by
  refine gMi.of (cc := cX0_latestOffset) (maxL := 3) (ty := .int) (by decide) rfl (Nat.le_of_ble_eq_true rfl) ?_
  intro p e s m args below meth c A C ls hl hO
  have hl : lv_has ls 3 [(0, .ref (a 1)), (1, .int k)] := hl
  have iX0 : ∀ w ∈ u_ws RX0 TX0 8, w ∈ wsX0_latestOffset := by decide +kernel
  have w28 : Cond.fieldLink RX0 28 "ParrotLog$Log" "size" "I" ∈ wsX0_latestOffset := by decide +kernel
  have w9 : Cond.fieldLink RX0 9 "ParrotLog$Log" "offsets" "[I" ∈ wsX0_latestOffset := by decide +kernel
  refine lv_aload_n C.1 C.2.1 dX0_latestOffset_0 rfl (lv_at hl 0 rfl) ?_
  refine lv_iload_n C.1 C.2.1 dX0_latestOffset_1 rfl (lv_at hl 1 rfl) ?_
  refine lv_iconst (v := 0) C.1 C.2.1 dX0_latestOffset_2 (by decide) ?_
  refine lv_aload_n C.1 C.2.1 dX0_latestOffset_3 rfl (lv_at hl 0 rfl) ?_
  refine gGet (v := .int (nI (s_n S))) (ref := RX0) (Cn := RX0) (T := TX0) (N := 8) C iX0 hO 1 rfl rfl 5 (by decide) w28 (fun _ h9 => h9) rfl dX0_latestOffset_4 ?_
  refine gCall_i (As := [.int k, .int 0, .int (nI (s_n S))]) (rest := []) C hO (c_X0_latestPosition l E a S mk rk rv F k 0 (s_n S) (by omega) (by omega)) (cwV 3 C.2.2.2.2.1 gX0_latestOffset_X0_latestPosition rfl rfl rfl (by decide +kernel) ⟨(Nat.le_of_ble_eq_true rfl), (Nat.le_of_ble_eq_true rfl)⟩) (va_recv C.2.2.2.2.2.2.2.1.1 hO.1 (ci := 0) (q0 := 1) rfl rfl) rfl hl.1 rfl (Nat.le_of_ble_eq_true rfl) dX0_latestOffset_7 ⟨(Nat.le_of_ble_eq_true rfl), (Nat.le_of_ble_eq_true rfl)⟩ (fun H locs hO => ?_)
  refine lv_istore_n (lv' := [(2, .int (oI (lpO (s_key S) k 0 (s_n S)))), (0, .ref (a 1)), (1, .int k)]) C.1 C.2.1 dX0_latestOffset_10 rfl hl (by decide) rfl (fun ls hl => ?_)
  refine lv_iload_n C.1 C.2.1 dX0_latestOffset_11 rfl (lv_at hl 0 rfl) ?_
  refine lv_iconst (v := (-1)) C.1 C.2.1 dX0_latestOffset_12 (by decide) ?_
  refine lv_icmp_ne (tgt := 20) C.1 C.2.1 dX0_latestOffset_13 (by decide) (fun c_1 => ?_) (fun c_1 => ?_)
  · obtain ⟨i9, hz, hi1, hi2, hi3⟩ := lpO_nm1 c_1
    refine lv_aload_n C.1 C.2.1 dX0_latestOffset_20 rfl (lv_at hl 1 rfl) ?_
    refine gGet (v := .ref (a 2)) (ref := RX0) (Cn := RX0) (T := TX0) (N := 8) C iX0 hO 1 rfl rfl 0 (by decide) w9 (fun _ h9 => h9) rfl dX0_latestOffset_21 ?_
    refine lv_iload_n C.1 C.2.1 dX0_latestOffset_24 rfl (lv_at hl 0 rfl) ?_
    refine lv_eqi (y := nI i9) (by rw [hz]; rfl) ?_
    refine gIald (v := (s_off S) i9) (j := i9) C hO 2 rfl (by omega) (by decide) rfl dX0_latestOffset_25 ?_
    exact gRi C hO rfl (by simp only [s_lo, hz]) dX0_latestOffset_26 (Nat.le_of_ble_eq_true rfl) (Nat.le_of_ble_eq_true rfl)
  · have hz : lpO (s_key S) k 0 (s_n S) = none := lpO_m1 (by omega) c_1
    refine lv_iconst (v := (-1)) C.1 C.2.1 dX0_latestOffset_16 (by decide) ?_
    refine lv_goto (tgt := 26) C.1 C.2.1 dX0_latestOffset_17 (by decide) ?_
    exact gRi C hO rfl (by simp only [s_lo, hz]) dX0_latestOffset_26 (Nat.le_of_ble_eq_true rfl) (Nat.le_of_ble_eq_true rfl)

set_option maxHeartbeats 4000000 in
set_option maxRecDepth 100000 in
theorem c_X0_latestValue (l : Launch) (E : gE) (a : Nat → Nat) (S : St) (mk rk rv : Nat → Int32) (F : va_W) (k : Int32) (hn : s_n S ≤ 48) : gMi l E yX0_latestValue wsX0_latestValue ({ frames := 1, cells := 0, slots := 0, locals := 24 }) (xW E a S mk rk rv ++ F) [.ref (a 1), .int k] (s_wv S k) (xW E a S mk rk rv ++ F) 0 0 := by
  refine gMi.of (cc := cX0_latestValue) (maxL := 3) (ty := .int) (by decide) rfl (Nat.le_of_ble_eq_true rfl) ?_
  intro p e s m args below meth c A C ls hl hO
  have hl : lv_has ls 3 [(0, .ref (a 1)), (1, .int k)] := hl
  have iX0 : ∀ w ∈ u_ws RX0 TX0 8, w ∈ wsX0_latestValue := by decide +kernel
  have w28 : Cond.fieldLink RX0 28 "ParrotLog$Log" "size" "I" ∈ wsX0_latestValue := by decide +kernel
  have w18 : Cond.fieldLink RX0 18 "ParrotLog$Log" "values" "[I" ∈ wsX0_latestValue := by decide +kernel
  refine lv_aload_n C.1 C.2.1 dX0_latestValue_0 rfl (lv_at hl 0 rfl) ?_
  refine lv_iload_n C.1 C.2.1 dX0_latestValue_1 rfl (lv_at hl 1 rfl) ?_
  refine lv_iconst (v := 0) C.1 C.2.1 dX0_latestValue_2 (by decide) ?_
  refine lv_aload_n C.1 C.2.1 dX0_latestValue_3 rfl (lv_at hl 0 rfl) ?_
  refine gGet (v := .int (nI (s_n S))) (ref := RX0) (Cn := RX0) (T := TX0) (N := 8) C iX0 hO 1 rfl rfl 5 (by decide) w28 (fun _ h9 => h9) rfl dX0_latestValue_4 ?_
  refine gCall_i (As := [.int k, .int 0, .int (nI (s_n S))]) (rest := []) C hO (c_X0_latestPosition l E a S mk rk rv F k 0 (s_n S) (by omega) (by omega)) (cwV 3 C.2.2.2.2.1 gX0_latestValue_X0_latestPosition rfl rfl rfl (by decide +kernel) ⟨(Nat.le_of_ble_eq_true rfl), (Nat.le_of_ble_eq_true rfl)⟩) (va_recv C.2.2.2.2.2.2.2.1.1 hO.1 (ci := 0) (q0 := 1) rfl rfl) rfl hl.1 rfl (Nat.le_of_ble_eq_true rfl) dX0_latestValue_7 ⟨(Nat.le_of_ble_eq_true rfl), (Nat.le_of_ble_eq_true rfl)⟩ (fun H locs hO => ?_)
  refine lv_istore_n (lv' := [(2, .int (oI (lpO (s_key S) k 0 (s_n S)))), (0, .ref (a 1)), (1, .int k)]) C.1 C.2.1 dX0_latestValue_10 rfl hl (by decide) rfl (fun ls hl => ?_)
  refine lv_iload_n C.1 C.2.1 dX0_latestValue_11 rfl (lv_at hl 0 rfl) ?_
  refine lv_iconst (v := (-1)) C.1 C.2.1 dX0_latestValue_12 (by decide) ?_
  refine lv_icmp_ne (tgt := 20) C.1 C.2.1 dX0_latestValue_13 (by decide) (fun c_1 => ?_) (fun c_1 => ?_)
  · obtain ⟨i9, hz, hi1, hi2, hi3⟩ := lpO_nm1 c_1
    refine lv_aload_n C.1 C.2.1 dX0_latestValue_20 rfl (lv_at hl 1 rfl) ?_
    refine gGet (v := .ref (a 4)) (ref := RX0) (Cn := RX0) (T := TX0) (N := 8) C iX0 hO 1 rfl rfl 2 (by decide) w18 (fun _ h9 => h9) rfl dX0_latestValue_21 ?_
    refine lv_iload_n C.1 C.2.1 dX0_latestValue_24 rfl (lv_at hl 0 rfl) ?_
    refine lv_eqi (y := nI i9) (by rw [hz]; rfl) ?_
    refine gIald (v := (s_val S) i9) (j := i9) C hO 4 rfl (by omega) (by decide) rfl dX0_latestValue_25 ?_
    exact gRi C hO rfl (by simp only [s_wv, hz]) dX0_latestValue_26 (Nat.le_of_ble_eq_true rfl) (Nat.le_of_ble_eq_true rfl)
  · have hz : lpO (s_key S) k 0 (s_n S) = none := lpO_m1 (by omega) c_1
    refine lv_iconst (v := 0) C.1 C.2.1 dX0_latestValue_16 (by decide) ?_
    refine lv_goto (tgt := 26) C.1 C.2.1 dX0_latestValue_17 (by decide) ?_
    exact gRi C hO rfl (by simp only [s_wv, hz]) dX0_latestValue_26 (Nat.le_of_ble_eq_true rfl) (Nat.le_of_ble_eq_true rfl)

set_option maxHeartbeats 4000000 in
set_option maxRecDepth 100000 in
theorem c_X0_countEqual (l : Launch) (E : gE) (a : Nat → Nat) (S : St) (mk rk rv : Nat → Int32) (F : va_W) (q9 r : Nat) (g : Nat → Int32) (x : Int32) (hn : s_n S ≤ 48) (hq : (xW E a S mk rk rv ++ F)[q9]? = some (r, .inl (eI E, 48, .inl g))) : gMi l E yX0_countEqual wsX0_countEqual ({ frames := 0, cells := 0, slots := 0, locals := 0 }) (xW E a S mk rk rv ++ F) [.ref (a 1), .ref r, .int x] (nI (cnt g x (s_n S))) (xW E a S mk rk rv ++ F) 0 0 := by
  refine gMi.of (cc := cX0_countEqual) (maxL := 5) (ty := .int) (by decide) rfl (Nat.le_of_ble_eq_true rfl) ?_
  intro p e s m args below meth c A C ls hl hO
  have hl : lv_has ls 5 [(0, .ref (a 1)), (1, .ref r), (2, .int x)] := hl
  have iX0 : ∀ w ∈ u_ws RX0 TX0 8, w ∈ wsX0_countEqual := by decide +kernel
  have w28 : Cond.fieldLink RX0 28 "ParrotLog$Log" "size" "I" ∈ wsX0_countEqual := by decide +kernel
  refine lv_iconst (v := 0) C.1 C.2.1 dX0_countEqual_0 (by decide) ?_
  refine lv_istore_n (lv' := [(3, .int 0), (0, .ref (a 1)), (1, .ref r), (2, .int x)]) C.1 C.2.1 dX0_countEqual_1 rfl hl (by decide) rfl (fun ls hl => ?_)
  refine lv_iconst (v := 0) C.1 C.2.1 dX0_countEqual_2 (by decide) ?_
  refine lv_istore (lv' := [(4, .int 0), (3, .int 0), (0, .ref (a 1)), (1, .ref r), (2, .int x)]) C.1 C.2.1 dX0_countEqual_3 hl (by decide) rfl (fun ls hl => ?_)
  have lp24 : ∀ (f : Nat) (k : Nat) (c2 : Nat), (s_n S + 1 ≤ k + f) → (k ≤ s_n S) → (c2 = cnt g x k) → ∀ (H : Heap) (locs : List Loc), gO E A s (xW E a S mk rk rv ++ F) H locs → ∀ ls : Array Slot, lv_has ls 5 [(0, .ref (a 1)), (1, .ref r), (2, .int x), (3, .int (nI c2)), (4, .int (nI k))] → W p l e ({ frames := 0, cells := 0, slots := 0, locals := 0 } : Room) s m args below meth c H locs 0 0 (MQ below (gQi E A (nI (cnt g x (s_n S))) (xW E a S mk rk rv ++ F)) args s 0 0 A) (F0 m 5 ls []) := by
    intro f
    induction f with
    | zero =>
      intro k c2 hf hk hc24
      exact absurd hf (by omega)
    | succ f ih_lp24 =>
      intro k c2 hf hk hc24 H locs hO ls hl
      refine lv_iload C.1 C.2.1 dX0_countEqual_5 (lv_at hl 4 rfl) ?_
      refine lv_aload_n C.1 C.2.1 dX0_countEqual_7 rfl (lv_at hl 0 rfl) ?_
      refine gGet (v := .int (nI (s_n S))) (ref := RX0) (Cn := RX0) (T := TX0) (N := 8) C iX0 hO 1 rfl rfl 5 (by decide) w28 (fun _ h9 => h9) rfl dX0_countEqual_8 ?_
      refine gGeN (x := k) (y := (s_n S)) (tgt := 31) C.1 C.2.1 (by omega) (by omega) dX0_countEqual_11 (by decide) (fun c_1 => ?_) (fun c_1 => ?_)
      · refine lv_iload_n C.1 C.2.1 dX0_countEqual_31 rfl (lv_at hl 3 rfl) ?_
        exact gRi C hO rfl (by rw [hc24, show k = s_n S by omega]) dX0_countEqual_32 (Nat.le_of_ble_eq_true rfl) (Nat.le_of_ble_eq_true rfl)
      · refine lv_aload_n C.1 C.2.1 dX0_countEqual_14 rfl (lv_at hl 1 rfl) ?_
        refine lv_iload C.1 C.2.1 dX0_countEqual_15 (lv_at hl 4 rfl) ?_
        refine gIald (v := g k) (j := k) C hO q9 hq (by omega) (by decide) rfl dX0_countEqual_17 ?_
        refine lv_iload_n C.1 C.2.1 dX0_countEqual_18 rfl (lv_at hl 2 rfl) ?_
        refine lv_icmp_ne (tgt := 25) C.1 C.2.1 dX0_countEqual_19 (by decide) (fun c_2 => ?_) (fun c_2 => ?_)
        · have hz : ¬ g k = x := c_2
          refine gInc (j := k) (k := 4) (lv' := [(4, .int (nI (k + 1))), (0, .ref (a 1)), (1, .ref r), (2, .int x), (3, .int (nI c2))]) C.1 C.2.1 dX0_countEqual_25 hl rfl (by decide) rfl (fun ls hl => ?_)
          refine lv_goto (tgt := 5) C.1 C.2.1 dX0_countEqual_28 (by decide) ?_
          exact ih_lp24 (k + 1) c2 (by omega) (by omega) (by first | exact by rw [hc24, cnt_s0 hz] | exact by rw [hc24, cnt_s1 hz]) _ _ hO _ (lv_sub hl [1, 2, 3, 4, 0] rfl)
        · have hz : g k = x := c_2
          refine gInc (j := c2) (k := 3) (lv' := [(3, .int (nI (c2 + 1))), (0, .ref (a 1)), (1, .ref r), (2, .int x), (4, .int (nI k))]) C.1 C.2.1 dX0_countEqual_22 hl rfl (by decide) rfl (fun ls hl => ?_)
          refine gInc (j := k) (k := 4) (lv' := [(4, .int (nI (k + 1))), (3, .int (nI (c2 + 1))), (0, .ref (a 1)), (1, .ref r), (2, .int x)]) C.1 C.2.1 dX0_countEqual_25 hl rfl (by decide) rfl (fun ls hl => ?_)
          refine lv_goto (tgt := 5) C.1 C.2.1 dX0_countEqual_28 (by decide) ?_
          exact ih_lp24 (k + 1) (c2 + 1) (by omega) (by omega) (by first | exact by rw [hc24, cnt_s0 hz] | exact by rw [hc24, cnt_s1 hz]) _ _ hO _ (lv_sub hl [2, 3, 4, 1, 0] rfl)
  exact lp24 (s_n S + 1) 0 0 (by omega) (Nat.zero_le _) rfl _ _ hO _ (lv_sub hl [2, 3, 4, 1, 0] rfl)

set_option maxHeartbeats 4000000 in
set_option maxRecDepth 100000 in
theorem c_X0_countKey (l : Launch) (E : gE) (a : Nat → Nat) (S : St) (mk rk rv : Nat → Int32) (F : va_W) (x : Int32) (hn : s_n S ≤ 48) : gMi l E yX0_countKey wsX0_countKey ({ frames := 1, cells := 0, slots := 0, locals := 24 }) (xW E a S mk rk rv ++ F) [.ref (a 1), .int x] (nI (cnt (s_key S) x (s_n S))) (xW E a S mk rk rv ++ F) 0 0 := by
  refine gMi.of (cc := cX0_countKey) (maxL := 2) (ty := .int) (by decide) rfl (Nat.le_of_ble_eq_true rfl) ?_
  intro p e s m args below meth c A C ls hl hO
  have hl : lv_has ls 2 [(0, .ref (a 1)), (1, .int x)] := hl
  have iX0 : ∀ w ∈ u_ws RX0 TX0 8, w ∈ wsX0_countKey := by decide +kernel
  have w15 : Cond.fieldLink RX0 15 "ParrotLog$Log" "keys" "[I" ∈ wsX0_countKey := by decide +kernel
  refine lv_aload_n C.1 C.2.1 dX0_countKey_0 rfl (lv_at hl 0 rfl) ?_
  refine lv_aload_n C.1 C.2.1 dX0_countKey_1 rfl (lv_at hl 0 rfl) ?_
  refine gGet (v := .ref (a 3)) (ref := RX0) (Cn := RX0) (T := TX0) (N := 8) C iX0 hO 1 rfl rfl 1 (by decide) w15 (fun _ h9 => h9) rfl dX0_countKey_2 ?_
  refine lv_iload_n C.1 C.2.1 dX0_countKey_5 rfl (lv_at hl 1 rfl) ?_
  refine gCall_i (As := [.ref (a 3), .int x]) (rest := []) C hO (c_X0_countEqual l E a S mk rk rv F 3 (a 3) (s_key S) x (by omega) rfl) (cwV 2 C.2.2.2.2.1 gX0_countKey_X0_countEqual rfl rfl rfl (by decide +kernel) ⟨(Nat.le_of_ble_eq_true rfl), (Nat.le_of_ble_eq_true rfl)⟩) (va_recv C.2.2.2.2.2.2.2.1.1 hO.1 (ci := 0) (q0 := 1) rfl rfl) rfl hl.1 rfl (Nat.le_of_ble_eq_true rfl) dX0_countKey_6 ⟨(Nat.le_of_ble_eq_true rfl), (Nat.le_of_ble_eq_true rfl)⟩ (fun H locs hO => ?_)
  exact gRi C hO rfl rfl dX0_countKey_9 (Nat.le_of_ble_eq_true rfl) (Nat.le_of_ble_eq_true rfl)

set_option maxHeartbeats 4000000 in
set_option maxRecDepth 100000 in
theorem c_X0_countStorm (l : Launch) (E : gE) (a : Nat → Nat) (S : St) (mk rk rv : Nat → Int32) (F : va_W) (x : Int32) (hn : s_n S ≤ 48) : gMi l E yX0_countStorm wsX0_countStorm ({ frames := 1, cells := 0, slots := 0, locals := 24 }) (xW E a S mk rk rv ++ F) [.ref (a 1), .int x] (nI (cnt (s_sto S) x (s_n S))) (xW E a S mk rk rv ++ F) 0 0 := by
  refine gMi.of (cc := cX0_countStorm) (maxL := 2) (ty := .int) (by decide) rfl (Nat.le_of_ble_eq_true rfl) ?_
  intro p e s m args below meth c A C ls hl hO
  have hl : lv_has ls 2 [(0, .ref (a 1)), (1, .int x)] := hl
  have iX0 : ∀ w ∈ u_ws RX0 TX0 8, w ∈ wsX0_countStorm := by decide +kernel
  have w21 : Cond.fieldLink RX0 21 "ParrotLog$Log" "stormNumbers" "[I" ∈ wsX0_countStorm := by decide +kernel
  refine lv_aload_n C.1 C.2.1 dX0_countStorm_0 rfl (lv_at hl 0 rfl) ?_
  refine lv_aload_n C.1 C.2.1 dX0_countStorm_1 rfl (lv_at hl 0 rfl) ?_
  refine gGet (v := .ref (a 5)) (ref := RX0) (Cn := RX0) (T := TX0) (N := 8) C iX0 hO 1 rfl rfl 3 (by decide) w21 (fun _ h9 => h9) rfl dX0_countStorm_2 ?_
  refine lv_iload_n C.1 C.2.1 dX0_countStorm_5 rfl (lv_at hl 1 rfl) ?_
  refine gCall_i (As := [.ref (a 5), .int x]) (rest := []) C hO (c_X0_countEqual l E a S mk rk rv F 5 (a 5) (s_sto S) x (by omega) rfl) (cwV 2 C.2.2.2.2.1 gX0_countStorm_X0_countEqual rfl rfl rfl (by decide +kernel) ⟨(Nat.le_of_ble_eq_true rfl), (Nat.le_of_ble_eq_true rfl)⟩) (va_recv C.2.2.2.2.2.2.2.1.1 hO.1 (ci := 0) (q0 := 1) rfl rfl) rfl hl.1 rfl (Nat.le_of_ble_eq_true rfl) dX0_countStorm_6 ⟨(Nat.le_of_ble_eq_true rfl), (Nat.le_of_ble_eq_true rfl)⟩ (fun H locs hO => ?_)
  exact gRi C hO rfl rfl dX0_countStorm_9 (Nat.le_of_ble_eq_true rfl) (Nat.le_of_ble_eq_true rfl)

set_option maxHeartbeats 4000000 in
set_option maxRecDepth 100000 in
theorem c_X0_copyStorm (l : Launch) (E : gE) (a : Nat → Nat) (S : St) (mk rk rv : Nat → Int32) (F : va_W) (x : Int32) (hn : s_n S ≤ 48) : gMi l E yX0_copyStorm wsX0_copyStorm ({ frames := 0, cells := 0, slots := 0, locals := 0 }) (xW E a S mk rk rv ++ F) [.ref (a 1), .int x, .ref (a 9), .ref (a 10)] (nI (cnt (s_sto S) x (s_n S))) (xW E a S mk (flF (s_key S) (s_sto S) x rk (s_n S)) (flF (s_val S) (s_sto S) x rv (s_n S)) ++ F) 0 0 := by
  refine gMi.of (cc := cX0_copyStorm) (maxL := 6) (ty := .int) (by decide) rfl (Nat.le_of_ble_eq_true rfl) ?_
  intro p e s m args below meth c A C ls hl hO
  have hl : lv_has ls 6 [(0, .ref (a 1)), (1, .int x), (2, .ref (a 9)), (3, .ref (a 10))] := hl
  have iX0 : ∀ w ∈ u_ws RX0 TX0 8, w ∈ wsX0_copyStorm := by decide +kernel
  have w28 : Cond.fieldLink RX0 28 "ParrotLog$Log" "size" "I" ∈ wsX0_copyStorm := by decide +kernel
  have w21 : Cond.fieldLink RX0 21 "ParrotLog$Log" "stormNumbers" "[I" ∈ wsX0_copyStorm := by decide +kernel
  have w15 : Cond.fieldLink RX0 15 "ParrotLog$Log" "keys" "[I" ∈ wsX0_copyStorm := by decide +kernel
  have w18 : Cond.fieldLink RX0 18 "ParrotLog$Log" "values" "[I" ∈ wsX0_copyStorm := by decide +kernel
  refine lv_iconst (v := 0) C.1 C.2.1 dX0_copyStorm_0 (by decide) ?_
  refine lv_istore (lv' := [(4, .int 0), (0, .ref (a 1)), (1, .int x), (2, .ref (a 9)), (3, .ref (a 10))]) C.1 C.2.1 dX0_copyStorm_1 hl (by decide) rfl (fun ls hl => ?_)
  refine lv_iconst (v := 0) C.1 C.2.1 dX0_copyStorm_3 (by decide) ?_
  refine lv_istore (lv' := [(5, .int 0), (4, .int 0), (0, .ref (a 1)), (1, .int x), (2, .ref (a 9)), (3, .ref (a 10))]) C.1 C.2.1 dX0_copyStorm_4 hl (by decide) rfl (fun ls hl => ?_)
  have lp24 : ∀ (f : Nat) (k : Nat), (s_n S + 1 ≤ k + f) → (k ≤ s_n S) → ∀ (H : Heap) (locs : List Loc), gO E A s (xW E a S mk (flF (s_key S) (s_sto S) x rk k) (flF (s_val S) (s_sto S) x rv k) ++ F) H locs → ∀ ls : Array Slot, lv_has ls 6 [(0, .ref (a 1)), (1, .int x), (2, .ref (a 9)), (3, .ref (a 10)), (4, .int (nI (cnt (s_sto S) x k))), (5, .int (nI k))] → W p l e ({ frames := 0, cells := 0, slots := 0, locals := 0 } : Room) s m args below meth c H locs 0 0 (MQ below (gQi E A (nI (cnt (s_sto S) x (s_n S))) (xW E a S mk (flF (s_key S) (s_sto S) x rk (s_n S)) (flF (s_val S) (s_sto S) x rv (s_n S)) ++ F)) args s 0 0 A) (F0 m 6 ls []) := by
    intro f
    induction f with
    | zero =>
      intro k hf hk
      exact absurd hf (by omega)
    | succ f ih_lp24 =>
      intro k hf hk H locs hO ls hl
      refine lv_iload C.1 C.2.1 dX0_copyStorm_6 (lv_at hl 5 rfl) ?_
      refine lv_aload_n C.1 C.2.1 dX0_copyStorm_8 rfl (lv_at hl 0 rfl) ?_
      refine gGet (v := .int (nI (s_n S))) (ref := RX0) (Cn := RX0) (T := TX0) (N := 8) C iX0 hO 1 rfl rfl 5 (by decide) w28 (fun _ h9 => h9) rfl dX0_copyStorm_9 ?_
      refine gGeN (x := k) (y := (s_n S)) (tgt := 57) C.1 C.2.1 (by omega) (by omega) dX0_copyStorm_12 (by decide) (fun c_1 => ?_) (fun c_1 => ?_)
      · have hk9 : k = s_n S := by omega
        rw [hk9] at hO hl
        have hl := lv_sub hl [4] rfl
        have hl : lv_has ls 6 [(4, .int (nI (cnt (s_sto S) x (s_n S))))] := hl
        refine lv_iload C.1 C.2.1 dX0_copyStorm_57 (lv_at hl 0 rfl) ?_
        exact gRi C hO rfl rfl dX0_copyStorm_59 (Nat.le_of_ble_eq_true rfl) (Nat.le_of_ble_eq_true rfl)
      · have hle := cnt_le (s_sto S) x k
        refine lv_aload_n C.1 C.2.1 dX0_copyStorm_15 rfl (lv_at hl 0 rfl) ?_
        refine gGet (v := .ref (a 5)) (ref := RX0) (Cn := RX0) (T := TX0) (N := 8) C iX0 hO 1 rfl rfl 3 (by decide) w21 (fun _ h9 => h9) rfl dX0_copyStorm_16 ?_
        refine lv_iload C.1 C.2.1 dX0_copyStorm_19 (lv_at hl 5 rfl) ?_
        refine gIald (v := (s_sto S) k) (j := k) C hO 5 rfl (by omega) (by decide) rfl dX0_copyStorm_21 ?_
        refine lv_iload_n C.1 C.2.1 dX0_copyStorm_22 rfl (lv_at hl 1 rfl) ?_
        refine lv_icmp_ne (tgt := 51) C.1 C.2.1 dX0_copyStorm_23 (by decide) (fun c_2 => ?_) (fun c_2 => ?_)
        · have hz : ¬ s_sto S k = x := c_2
          have hO : gO E A s (xW E a S mk (flF (s_key S) (s_sto S) x rk (k + 1)) (flF (s_val S) (s_sto S) x rv (k + 1)) ++ F) H locs := by rw [fl_s0 hz, fl_s0 hz]; exact hO
          have hl : lv_has ls 6 [(0, .ref (a 1)), (1, .int x), (2, .ref (a 9)), (3, .ref (a 10)), (4, .int (nI (cnt (s_sto S) x (k + 1)))), (5, .int (nI k))] := by rw [cnt_s0 hz]; exact hl
          refine gInc (j := k) (k := 5) (lv' := [(5, .int (nI (k + 1))), (0, .ref (a 1)), (1, .int x), (2, .ref (a 9)), (3, .ref (a 10)), (4, .int (nI (cnt (s_sto S) x (k + 1))))]) C.1 C.2.1 dX0_copyStorm_51 hl rfl (by decide) rfl (fun ls hl => ?_)
          refine lv_goto (tgt := 6) C.1 C.2.1 dX0_copyStorm_54 (by decide) ?_
          exact ih_lp24 (k + 1) (by omega) (by omega) _ _ hO _ (lv_sub hl [1, 2, 3, 4, 5, 0] rfl)
        · have hz : s_sto S k = x := c_2
          refine lv_aload_n C.1 C.2.1 dX0_copyStorm_26 rfl (lv_at hl 2 rfl) ?_
          refine lv_iload C.1 C.2.1 dX0_copyStorm_27 (lv_at hl 4 rfl) ?_
          refine lv_aload_n C.1 C.2.1 dX0_copyStorm_29 rfl (lv_at hl 0 rfl) ?_
          refine gGet (v := .ref (a 3)) (ref := RX0) (Cn := RX0) (T := TX0) (N := 8) C iX0 hO 1 rfl rfl 1 (by decide) w15 (fun _ h9 => h9) rfl dX0_copyStorm_30 ?_
          refine lv_iload C.1 C.2.1 dX0_copyStorm_33 (lv_at hl 5 rfl) ?_
          refine gIald (v := (s_key S) k) (j := k) C hO 3 rfl (by omega) (by decide) rfl dX0_copyStorm_35 ?_
          refine gIast (j := (cnt (s_sto S) x k)) (ws' := (xW E a S mk (upd (flF (s_key S) (s_sto S) x rk k) (cnt (s_sto S) x k) ((s_key S) k)) (flF (s_val S) (s_sto S) x rv k) ++ F)) C hO 9 rfl (by omega) (by decide) rfl dX0_copyStorm_36 (fun H locs hO => ?_)
          refine lv_aload_n C.1 C.2.1 dX0_copyStorm_37 rfl (lv_at hl 3 rfl) ?_
          refine lv_iload C.1 C.2.1 dX0_copyStorm_38 (lv_at hl 4 rfl) ?_
          refine lv_aload_n C.1 C.2.1 dX0_copyStorm_40 rfl (lv_at hl 0 rfl) ?_
          refine gGet (v := .ref (a 4)) (ref := RX0) (Cn := RX0) (T := TX0) (N := 8) C iX0 hO 1 rfl rfl 2 (by decide) w18 (fun _ h9 => h9) rfl dX0_copyStorm_41 ?_
          refine lv_iload C.1 C.2.1 dX0_copyStorm_44 (lv_at hl 5 rfl) ?_
          refine gIald (v := (s_val S) k) (j := k) C hO 4 rfl (by omega) (by decide) rfl dX0_copyStorm_46 ?_
          refine gIast (j := (cnt (s_sto S) x k)) (ws' := (xW E a S mk (upd (flF (s_key S) (s_sto S) x rk k) (cnt (s_sto S) x k) ((s_key S) k)) (upd (flF (s_val S) (s_sto S) x rv k) (cnt (s_sto S) x k) ((s_val S) k)) ++ F)) C hO 10 rfl (by omega) (by decide) rfl dX0_copyStorm_47 (fun H locs hO => ?_)
          refine gInc (j := (cnt (s_sto S) x k)) (k := 4) (lv' := [(4, .int (nI ((cnt (s_sto S) x k) + 1))), (0, .ref (a 1)), (1, .int x), (2, .ref (a 9)), (3, .ref (a 10)), (5, .int (nI k))]) C.1 C.2.1 dX0_copyStorm_48 hl rfl (by decide) rfl (fun ls hl => ?_)
          have hO : gO E A s (xW E a S mk (flF (s_key S) (s_sto S) x rk (k + 1)) (flF (s_val S) (s_sto S) x rv (k + 1)) ++ F) H locs := by rw [fl_s1 hz, fl_s1 hz]; exact hO
          have hl : lv_has ls 6 [(4, .int (nI (cnt (s_sto S) x (k + 1)))), (0, .ref (a 1)), (1, .int x), (2, .ref (a 9)), (3, .ref (a 10)), (5, .int (nI k))] := by rw [cnt_s1 hz]; exact hl
          refine gInc (j := k) (k := 5) (lv' := [(5, .int (nI (k + 1))), (4, .int (nI (cnt (s_sto S) x (k + 1)))), (0, .ref (a 1)), (1, .int x), (2, .ref (a 9)), (3, .ref (a 10))]) C.1 C.2.1 dX0_copyStorm_51 hl rfl (by decide) rfl (fun ls hl => ?_)
          refine lv_goto (tgt := 6) C.1 C.2.1 dX0_copyStorm_54 (by decide) ?_
          exact ih_lp24 (k + 1) (by omega) (by omega) _ _ hO _ (lv_sub hl [2, 3, 4, 5, 1, 0] rfl)
  exact lp24 (s_n S + 1) 0 (by omega) (Nat.zero_le _) _ _ hO _ (lv_sub hl [2, 3, 4, 5, 1, 0] rfl)

set_option maxHeartbeats 4000000 in
set_option maxRecDepth 100000 in
theorem c_X1_hear (l : Launch) (E : gE) (a : Nat → Nat) (S : St) (mk rk rv : Nat → Int32) (F : va_W) (i : Nat) (po : Int32) (k9 : Nat) (v : Int32) (hi : i < 6) (hk9 : k9 < 10) : gMv l E yX1_hear wsX1_hear ({ frames := 0, cells := 0, slots := 0, locals := 0 }) (xW E a S mk rk rv ++ F) [.ref (a (11 + i)), .int po, .int (nI k9), .int v] (xW E a (mkS (s_off S) (s_key S) (s_val S) (s_sto S) (s_n S) (s_nx S) (s_dr S) (s_hr S) (s_sc S) (s_on S) (s_said S) (s_sh S) (s_pc S) (upd (s_at S) i (po + 1)) (upd (s_hd S) i (s_hd S i + 1)) (s_ms S) (va_up (s_kn S) i (upd (s_kn S i) k9 v))) mk rk rv ++ F) 0 0 := by
  refine gMv.of (cc := cX1_hear) (maxL := 4) (by decide) rfl (Nat.le_of_ble_eq_true rfl) ?_
  intro p e s m args below meth c A C ls hl hO
  have hl : lv_has ls 4 [(0, .ref (a (11 + i))), (1, .int po), (2, .int (nI k9)), (3, .int v)] := hl
  have iX1 : ∀ w ∈ u_ws RX1 TX1 5, w ∈ wsX1_hear := by decide +kernel
  have w9 : Cond.fieldLink RX1 9 "ParrotLog$Ship" "known" "[I" ∈ wsX1_hear := by decide +kernel
  have w15 : Cond.fieldLink RX1 15 "ParrotLog$Ship" "offset" "I" ∈ wsX1_hear := by decide +kernel
  have w19 : Cond.fieldLink RX1 19 "ParrotLog$Ship" "heard" "I" ∈ wsX1_hear := by decide +kernel
  refine lv_aload_n C.1 C.2.1 dX1_hear_0 rfl (lv_at hl 0 rfl) ?_
  refine gGet (v := .ref (a (17 + i))) (ref := RX1) (Cn := RX1) (T := TX1) (N := 5) C iX1 hO (11 + i) (xw_ship hi) rfl 0 (by decide) w9 (fun _ h9 => h9) rfl dX1_hear_1 ?_
  refine lv_iload_n C.1 C.2.1 dX1_hear_4 rfl (lv_at hl 2 rfl) ?_
  refine lv_iload_n C.1 C.2.1 dX1_hear_5 rfl (lv_at hl 3 rfl) ?_
  refine gIast (j := k9) (ws' := (xW E a (mkS (s_off S) (s_key S) (s_val S) (s_sto S) (s_n S) (s_nx S) (s_dr S) (s_hr S) (s_sc S) (s_on S) (s_said S) (s_sh S) (s_pc S) (s_at S) (s_hd S) (s_ms S) (va_up (s_kn S) i (upd ((s_kn S) i) k9 v))) mk rk rv ++ F)) C hO (17 + i) (xw_kn hi) (by omega) (by decide) (xs_kn hi _) dX1_hear_6 (fun H locs hO => ?_)
  refine lv_aload_n C.1 C.2.1 dX1_hear_7 rfl (lv_at hl 0 rfl) ?_
  refine lv_iload_n C.1 C.2.1 dX1_hear_8 rfl (lv_at hl 1 rfl) ?_
  refine lv_iconst (v := 1) C.1 C.2.1 dX1_hear_9 (by decide) ?_
  refine lv_iadd C.1 C.2.1 dX1_hear_10 ?_
  refine gPut (ws' := (xW E a (mkS (s_off S) (s_key S) (s_val S) (s_sto S) (s_n S) (s_nx S) (s_dr S) (s_hr S) (s_sc S) (s_on S) (s_said S) (s_sh S) (s_pc S) (upd (s_at S) i (po + 1)) (s_hd S) (s_ms S) (va_up (s_kn S) i (upd ((s_kn S) i) k9 v))) mk rk rv ++ F)) (ref := RX1) (Cn := RX1) (T := TX1) (N := 5) C iX1 tyX1 tyX1_ok nmX1 hO (11 + i) (xw_ship hi) rfl 2 (by decide) w15 (fun _ h9 => h9) rfl (by decide +kernel) rfl rfl (Nat.le_of_ble_eq_true rfl) (xs_at hi _) dX1_hear_11 (fun H locs hO => ?_)
  refine lv_aload_n C.1 C.2.1 dX1_hear_14 rfl (lv_at hl 0 rfl) ?_
  refine lv_dup C.1 C.2.1 dX1_hear_15 rfl ?_
  refine gGet (v := .int ((s_hd S) i)) (ref := RX1) (Cn := RX1) (T := TX1) (N := 5) C iX1 hO (11 + i) (xw_ship hi) rfl 3 (by decide) w19 (fun _ h9 => h9) rfl dX1_hear_16 ?_
  refine lv_iconst (v := 1) C.1 C.2.1 dX1_hear_19 (by decide) ?_
  refine lv_iadd C.1 C.2.1 dX1_hear_20 ?_
  refine gPut (ws' := (xW E a (mkS (s_off S) (s_key S) (s_val S) (s_sto S) (s_n S) (s_nx S) (s_dr S) (s_hr S) (s_sc S) (s_on S) (s_said S) (s_sh S) (s_pc S) (upd (s_at S) i (po + 1)) (upd (s_hd S) i (((s_hd S) i) + 1)) (s_ms S) (va_up (s_kn S) i (upd ((s_kn S) i) k9 v))) mk rk rv ++ F)) (ref := RX1) (Cn := RX1) (T := TX1) (N := 5) C iX1 tyX1 tyX1_ok nmX1 hO (11 + i) (xw_ship hi) rfl 3 (by decide) w19 (fun _ h9 => h9) rfl (by decide +kernel) rfl rfl (Nat.le_of_ble_eq_true rfl) (xs_hd hi _) dX1_hear_21 (fun H locs hO => ?_)
  exact gRv C hO dX1_hear_24 (Nat.le_of_ble_eq_true rfl) (Nat.le_of_ble_eq_true rfl)
end
section
abbrev okKey (k : Int32) : Prop := ¬ k < 0 ∧ k < 10
abbrev okVal (v : Int32) : Prop := ¬ v < -999 ∧ ¬ 999 < v
abbrev okHours (h : Int32) : Prop := ¬ h < 1 ∧ ¬ 60 < h
abbrev okPace (q : Int32) : Prop := ¬ q < 1 ∧ ¬ 5 < q
abbrev okOff (S : St) (o : Int32) : Prop := ¬ o < 0 ∧ ¬ s_nx S < o
abbrev okStorm (S : St) (x : Int32) : Prop := ¬ x < 0 ∧ x < nI (s_sc S)
abbrev okShip (S : St) (i : Int32) : Prop := ¬ i < 0 ∧ i < nI (s_sh S)
abbrev xIAE : String := "java/lang/IllegalArgumentException"
abbrev xISE : String := "java/lang/IllegalStateException"
abbrev xIOE : String := "java/lang/IndexOutOfBoundsException"
theorem okNat {x : Int32} {n : Nat} (hn : n < 1000000) (h0 : ¬ x < 0) (h : x < nI n) : x.toNatClampNeg < n ∧ x = nI x.toNatClampNeg := by
  obtain ⟨j, hj, rfl⟩ := nI_of h0
  rw [nI_ltI hj (by omega)] at h
  rw [nI_clamp hj]
  exact ⟨h, rfl⟩
theorem cpF_congr {mk mk' f : Nat → Int32} : ∀ n, (∀ i, i < n → mk i = mk' i) → cpF mk f n = cpF mk' f n ∧ cpN mk n = cpN mk' n := by
  intro n
  induction n with
  | zero => intro _; exact ⟨rfl, rfl⟩
  | succ n ih =>
    intro h
    obtain ⟨h1, h2⟩ := ih (fun i hi => h i (by omega))
    have h3 := h n (by omega)
    by_cases hz : mk' n = 0
    · have hz2 : mk n = 0 := h3.trans hz
      rw [cf_s1 hz, cf_s1 hz2, cp_s1 hz, cp_s1 hz2, h1, h2]
      exact ⟨rfl, rfl⟩
    · have hz2 : ¬ mk n = 0 := fun q => hz (h3.symm.trans q)
      rw [cf_s0 hz, cf_s0 hz2, cp_s0 hz, cp_s0 hz2, h1, h2]
      exact ⟨rfl, rfl⟩
theorem cm_congr {mk mk' : Nat → Int32} {fr : Nat} : ∀ n, (∀ i, i < n → mk i = mk' i) → cm mk fr n = cm mk' fr n := by
  intro n
  induction n with
  | zero => intro _; rfl
  | succ n ih =>
    intro h
    unfold cm
    rw [ih (fun i hi => h i (by omega)), h n (by omega)]
theorem cpN_lt {mk : Nat → Int32} : ∀ n i, i < n → ¬ mk i = 0 → cpN mk n < n := by
  intro n
  induction n with
  | zero => intro i h; omega
  | succ n ih =>
    intro i h1 h2
    have hle := cpN_le mk n
    by_cases hi : i = n
    · subst hi; rw [cp_s0 h2]; omega
    · have h3 := ih i (by omega) h2
      by_cases hm : mk n = 0
      · rw [cp_s1 hm]; omega
      · rw [cp_s0 hm]; omega
/-- what each ship missed behind a drop of what is marked -/
def s_md (S : St) (g : Nat → Int32) : Nat → Int32 := mkU (fun i => s_ms S i + nI (cm g (pf (s_off S) (s_at S i) (s_n S)) (s_n S))) (s_ms S) (s_sh S)
abbrev S_drop (S : St) (g : Nat → Int32) : St := S_rem (S_ms S (s_md S g)) g
theorem S_drop_congr {S : St} {g g' : Nat → Int32} (h : ∀ i, i < s_n S → g i = g' i) : S_drop S g = S_drop S g' := by
  have e1 := fun f => (cpF_congr (mk := g) (mk' := g') (f := f) (s_n S) h).1
  have e2 := (cpF_congr (mk := g) (mk' := g') (f := s_off S) (s_n S) h).2
  have e3 : s_md S g = s_md S g' := by
    unfold s_md
    congr 1
    funext i
    rw [cm_congr (s_n S) h]
  unfold S_drop S_rem
  show mkS (cpF g (s_off S) (s_n S)) (cpF g (s_key S) (s_n S)) (cpF g (s_val S) (s_n S)) (cpF g (s_sto S) (s_n S)) (cpN g (s_n S)) (s_nx S) (s_dr S + nI (s_n S - cpN g (s_n S))) _ _ _ _ _ _ _ _ (s_md S g) _ = mkS (cpF g' (s_off S) (s_n S)) (cpF g' (s_key S) (s_n S)) (cpF g' (s_val S) (s_n S)) (cpF g' (s_sto S) (s_n S)) (cpN g' (s_n S)) (s_nx S) (s_dr S + nI (s_n S - cpN g' (s_n S))) _ _ _ _ _ _ _ _ (s_md S g') _
  rw [e1, e1, e1, e1, e2, e3]
/-- saying a phrase: room, the storm's number, the phrase -/
abbrev S_said (S : St) (v : Nat → Int32) : St := mkS (s_off S) (s_key S) (s_val S) (s_sto S) (s_n S) (s_nx S) (s_dr S) (s_hr S) (s_sc S) (s_on S) v (s_sh S) (s_pc S) (s_at S) (s_hd S) (s_ms S) (s_kn S)
def S_room (S : St) : St := if s_n S < 48 then S else S_drop S gFirst
def S_cntd (S : St) : St := if s_on S = 0 then S else S_said S (upd (s_said S) (s_sc S - 1) (s_said S (s_sc S - 1) + 1))
def s_tag (S : St) : Int32 := if s_on S = 0 then -1 else nI (s_sc S - 1)
def S_spk (S : St) (k v : Int32) : St := S_app (S_cntd (S_room S)) k v (s_tag S)
def mk_spk (S : St) (mk : Nat → Int32) : Nat → Int32 := if s_n S < 48 then mk else mkU gFirst mk (s_n S)
theorem S_room_n {S : St} (hn : s_n S ≤ 48) : s_n (S_room S) < 48 := by
  unfold S_room
  split
  · assumption
  · have := cpN_lt (mk := gFirst) (s_n S) 0 (by omega) (by decide)
    show cpN gFirst (s_n S) < 48
    omega
def s_lag (S : St) (i : Nat) : Nat := s_n S - pf (s_off S) (s_at S i) (s_n S)
def mhN (S : St) (h q : Nat) : Nat := if s_on S = 0 then h * q else 0
abbrev pN (S : St) (i : Nat) : Nat := (s_pc S i).toNatClampNeg
/-- the paces of the ships count, 1 to 5 -/
def s_okp (S : St) : Prop := ∀ i, i < s_sh S → 1 ≤ pN S i ∧ pN S i ≤ 5 ∧ s_pc S i = nI (pN S i)
theorem nI_min {x y : Nat} (hx : x < 1000000) (hy : y < 1000000) : (if nI y < nI x then nI y else nI x) = nI (min x y) := by
  by_cases h : y < x
  · rw [if_pos ((nI_ltI (by omega) (by omega)).mpr h), Nat.min_eq_right (by omega)]
  · rw [if_neg (fun q => h ((nI_ltI (by omega) (by omega)).mp q)), Nat.min_eq_left (by omega)]
/-- how far a ship hears, with so many phrases -/
def s_to (S : St) (i q : Nat) : Nat := min (s_n S) (pf (s_off S) (s_at S i) (s_n S) + q)
theorem s_to_le (S : St) (i q : Nat) : s_to S i q ≤ s_n S := Nat.min_le_left _ _
theorem s_to_ge (S : St) (i q : Nat) : pf (s_off S) (s_at S i) (s_n S) ≤ s_to S i q := by unfold s_to; have := pf_le (s_off S) (s_at S i) (s_n S); omega
/-- ship i has heard d phrases from its place on -/
def S_hear (S : St) (i d : Nat) : St := mkS (s_off S) (s_key S) (s_val S) (s_sto S) (s_n S) (s_nx S) (s_dr S) (s_hr S) (s_sc S) (s_on S) (s_said S) (s_sh S) (s_pc S) (if d = 0 then s_at S else upd (s_at S) i (s_off S (pf (s_off S) (s_at S i) (s_n S) + d - 1) + 1)) (upd (s_hd S) i (s_hd S i + nI d)) (s_ms S) (va_up (s_kn S) i (hk (s_key S) (s_val S) (pf (s_off S) (s_at S i) (s_n S)) (s_kn S i) d))
theorem upd_self (f : Nat → Int32) (i : Nat) : upd f i (f i) = f := by
  funext j
  unfold upd
  split
  · rename_i h; rw [h]
  · rfl
theorem upd_upd (f : Nat → Int32) (i : Nat) (x y : Int32) : upd (upd f i x) i y = upd f i y := by
  funext j
  unfold upd
  split <;> rfl
theorem upd_at (f : Nat → Int32) (i : Nat) (x : Int32) : upd f i x i = x := by simp [upd]
theorem vup_self {α : Type} (f : Nat → α) (i : Nat) : va_up f i (f i) = f := by
  funext j
  unfold va_up
  split
  · rename_i h; rw [h]
  · rfl
theorem vup_at {α : Type} (f : Nat → α) (i : Nat) (x : α) : va_up f i x i = x := by simp [va_up]
theorem S_hear_0 (S : St) (i : Nat) : S_hear S i 0 = S := by
  unfold S_hear
  rw [show hk (s_key S) (s_val S) (pf (s_off S) (s_at S i) (s_n S)) (s_kn S i) 0 = s_kn S i from rfl, vup_self, nI_0, Int32.add_zero, upd_self]
  rfl
theorem hear_kn {S : St} {i d fr : Nat} : va_up (va_up (s_kn S) i (hk (s_key S) (s_val S) fr (s_kn S i) d)) i (upd (va_up (s_kn S) i (hk (s_key S) (s_val S) fr (s_kn S i) d) i) (s_key S (fr + d)).toNatClampNeg (s_val S (fr + d))) = va_up (s_kn S) i (hk (s_key S) (s_val S) fr (s_kn S i) (d + 1)) := by
  rw [vup_at, bx_uu]
  rfl
theorem hear_at {S : St} {i d fr : Nat} : upd (if d = 0 then s_at S else upd (s_at S) i (s_off S (fr + d - 1) + 1)) i (s_off S (fr + d) + 1) = if d + 1 = 0 then s_at S else upd (s_at S) i (s_off S (fr + (d + 1) - 1) + 1) := by
  rw [if_neg (Nat.succ_ne_zero d), show fr + (d + 1) - 1 = fr + d by omega]
  split
  · rfl
  · rw [upd_upd]
theorem hear_hd {S : St} {i d : Nat} : upd (upd (s_hd S) i (s_hd S i + nI d)) i (upd (s_hd S) i (s_hd S i + nI d) i + 1) = upd (s_hd S) i (s_hd S i + nI (d + 1)) := by
  rw [upd_upd, upd_at, Int32.add_assoc, nI_1]
/-- hours going by: the ships hear one behind the other -/
def s_dh (T : St) (h i : Nat) : Nat := s_to T i (mhN T h (pN T i)) - pf (s_off T) (s_at T i) (s_n T)
def S_ps (S : St) (h : Nat) : Nat → St
  | 0 => S
  | i + 1 => S_hear (S_ps S h i) i (s_dh (S_ps S h i) h i)
def s_ph (S : St) (h : Nat) : Nat → Nat
  | 0 => 0
  | i + 1 => s_ph S h i + s_dh (S_ps S h i) h i
theorem S_ps_keep (S : St) (h : Nat) : ∀ i, s_off (S_ps S h i) = s_off S ∧ s_key (S_ps S h i) = s_key S ∧ s_n (S_ps S h i) = s_n S ∧ s_sh (S_ps S h i) = s_sh S ∧ s_pc (S_ps S h i) = s_pc S ∧ s_on (S_ps S h i) = s_on S ∧ s_val (S_ps S h i) = s_val S := by
  intro i
  induction i with
  | zero => exact ⟨rfl, rfl, rfl, rfl, rfl, rfl, rfl⟩
  | succ i ih => exact ih
theorem s_dh_le (T : St) (h i : Nat) : s_dh T h i ≤ s_n T := by unfold s_dh; have := s_to_le T i (mhN T h (pN T i)); omega
theorem s_ph_le (S : St) (h : Nat) : ∀ i, s_ph S h i ≤ i * s_n S := by
  intro i
  induction i with
  | zero => exact Nat.zero_le _
  | succ i ih =>
    have h1 := s_dh_le (S_ps S h i) h i
    rw [(S_ps_keep S h i).2.2.1] at h1
    unfold s_ph
    rw [Nat.succ_mul]
    omega
/-- in how many hours a ship's lag is 0 -/
def s_un (S : St) (i : Nat) : Int32 := if s_lag S i = 0 then 0 else if s_on S = 0 then nI ((s_lag S i + pN S i - 1) / pN S i) else -1
theorem s_lag_le (S : St) (i : Nat) : s_lag S i ≤ s_n S := Nat.sub_le _ _
theorem ceil_is {x q h : Nat} (hq : 0 < q) (h1 : x ≤ h * q) (h2 : ∀ g, g < h → g * q < x) : (x + q - 1) / q = h := by
  cases h with
  | zero =>
    have : x = 0 := by omega
    subst this
    exact Nat.div_eq_of_lt (by omega)
  | succ h =>
    have h3 := h2 h (by omega)
    refine Nat.div_eq_of_lt_le ?_ ?_
    · rw [Nat.succ_mul]; omega
    · show x + q - 1 < (h + 1 + 1) * q
      rw [Nat.succ_mul]; omega
theorem s_un_hit {S : St} {i h : Nat} (hq : 1 ≤ pN S i) (h1 : s_lag S i ≤ mhN S h (pN S i)) (h2 : ∀ g, g < h → mhN S g (pN S i) < s_lag S i) : s_un S i = nI h := by
  unfold s_un
  unfold mhN at h1 h2
  by_cases ho : s_on S = 0
  · simp only [ho, if_true] at h1 h2 ⊢
    by_cases hl : s_lag S i = 0
    · have : h = 0 := by
        cases h with
        | zero => rfl
        | succ h => have := h2 0 (by omega); omega
      rw [if_pos hl, this]
      rfl
    · rw [if_neg hl, ceil_is (by omega) h1 h2]
  · simp only [ho, if_false] at h1 h2 ⊢
    have hl : s_lag S i = 0 := by omega
    have : h = 0 := by
      cases h with
      | zero => rfl
      | succ h => have := h2 0 (by omega); omega
    rw [if_pos hl, this]
    rfl
theorem s_un_none {S : St} {i : Nat} (hn : s_n S ≤ 48) (hq : 1 ≤ pN S i) (h2 : ∀ g, g < 61 → mhN S g (pN S i) < s_lag S i) : s_un S i = -1 := by
  unfold s_un
  unfold mhN at h2
  have hll := s_lag_le S i
  by_cases ho : s_on S = 0
  · simp only [ho, if_true] at h2 ⊢
    have := h2 60 (by omega)
    omega
  · simp only [ho, if_false] at h2 ⊢
    have := h2 0 (by omega)
    rw [if_neg (by omega)]
def s_pw (S : St) (i h : Nat) : Int32 := if s_lag S i = 0 then 1 else if s_on S = 0 then (if 5 < (s_lag S i + h - 1) / h then -1 else nI ((s_lag S i + h - 1) / h)) else -1
theorem s_pw_hit {S : St} {i h q : Nat} (hh : 1 ≤ h) (hq1 : 1 ≤ q) (hq5 : q ≤ 5) (h1 : s_lag S i ≤ mhN S h q) (h2 : ∀ g, 1 ≤ g → g < q → mhN S h g < s_lag S i) : s_pw S i h = nI q := by
  unfold s_pw
  unfold mhN at h1 h2
  by_cases ho : s_on S = 0
  · simp only [ho, if_true] at h1 h2 ⊢
    by_cases hl : s_lag S i = 0
    · have : q = 1 := by
        by_cases hq : q = 1
        · exact hq
        · have := h2 1 (by omega) (by omega); omega
      rw [if_pos hl, this]
      rfl
    · have hc : (s_lag S i + h - 1) / h = q := ceil_is (by omega) (by rw [Nat.mul_comm]; exact h1) (fun g hg => by
        by_cases hg0 : g = 0
        · subst hg0; omega
        · rw [Nat.mul_comm]; exact h2 g (by omega) hg)
      rw [if_neg hl, hc, if_neg (by omega)]
  · simp only [ho, if_false] at h1 h2 ⊢
    have hl : s_lag S i = 0 := by omega
    have : q = 1 := by
      by_cases hq : q = 1
      · exact hq
      · have := h2 1 (by omega) (by omega); omega
    rw [if_pos hl, this]
    rfl
theorem s_pw_none {S : St} {i h : Nat} (hh : 1 ≤ h) (h2 : ∀ g, 1 ≤ g → g < 6 → mhN S h g < s_lag S i) : s_pw S i h = -1 := by
  unfold s_pw
  unfold mhN at h2
  by_cases ho : s_on S = 0
  · simp only [ho, if_true] at h2 ⊢
    have h3 := h2 5 (by omega) (by omega)
    rw [if_neg (by omega), if_pos]
    rw [Nat.lt_div_iff_mul_lt (by omega), Nat.mul_comm]
    omega
  · simp only [ho, if_false] at h2 ⊢
    have := h2 1 (by omega) (by omega)
    rw [if_neg (by omega)]
/-- in how many keys a ship errs -/
def s_kv (S : St) (i fr to : Nat) (c : Nat) : Int32 := match lpO (s_key S) (nI c) fr to with | none => s_kn S i c | some j => s_val S j
def s_er (S : St) (i fr to : Nat) : Nat → Nat
  | 0 => 0
  | c + 1 => s_er S i fr to c + (if s_kv S i fr to c = s_wv S (nI c) then 0 else 1)
theorem s_er_1 {S : St} {i fr to c : Nat} (h : ¬ s_kv S i fr to c = s_wv S (nI c)) : s_er S i fr to (c + 1) = s_er S i fr to c + 1 := by show s_er S i fr to c + _ = _; rw [if_neg h]
theorem s_er_0 {S : St} {i fr to c : Nat} (h : s_kv S i fr to c = s_wv S (nI c)) : s_er S i fr to (c + 1) = s_er S i fr to c := by show s_er S i fr to c + _ = _; rw [if_pos h]; rfl
theorem s_er_le (S : St) (i fr to : Nat) : ∀ c, s_er S i fr to c ≤ c := by
  intro c
  induction c with
  | zero => exact Nat.le_refl _
  | succ c ih => unfold s_er; split <;> omega
abbrev s_ea (S : St) (i q : Nat) : Nat := s_er S i (pf (s_off S) (s_at S i) (s_n S)) (s_to S i q) 10
/-- the ship that lags the most -/
def s_fb (S : St) : Nat → Option Nat
  | 0 => none
  | i + 1 => match s_fb S i with
    | none => some i
    | some b => if s_lag S b < s_lag S i then some i else some b
def s_gl (S : St) (i : Nat) : Int32 := match s_fb S i with | none => -1 | some b => nI (s_lag S b)
theorem s_fb_1 {S : St} {i : Nat} (hn : s_n S ≤ 48) (h : s_gl S i < nI (s_lag S i)) : s_fb S (i + 1) = some i := by
  unfold s_gl at h
  unfold s_fb
  cases hb : s_fb S i with
  | none => rfl
  | some b =>
    rw [hb] at h
    have h1 := s_lag_le S b
    have h2 := s_lag_le S i
    have h3 : s_lag S b < s_lag S i := (nI_ltI (by omega) (by omega)).mp h
    show (if _ then _ else _) = _
    rw [if_pos h3]
theorem s_fb_0 {S : St} {i : Nat} (hn : s_n S ≤ 48) (h : ¬ s_gl S i < nI (s_lag S i)) : s_fb S (i + 1) = s_fb S i := by
  unfold s_gl at h
  rw [s_fb]
  have h2 := s_lag_le S i
  cases hb : s_fb S i with
  | none =>
    rw [hb] at h
    refine absurd ?_ h
    show (-1 : Int32) < nI (s_lag S i)
    rw [Int32.lt_iff_toInt_lt, nI_toInt (by omega)]
    have : (-1 : Int32).toInt = -1 := rfl
    omega
  | some b =>
    rw [hb] at h
    have h1 := s_lag_le S b
    have h3 : ¬ s_lag S b < s_lag S i := fun q => h ((nI_ltI (by omega) (by omega)).mpr q)
    show (if _ then _ else _) = _
    rw [if_neg h3]
theorem s_gl_1 {S : St} {i : Nat} (hb : s_fb S (i + 1) = some i) : s_gl S (i + 1) = nI (s_lag S i) := by unfold s_gl; rw [hb]
theorem s_gl_0 {S : St} {i : Nat} (hb : s_fb S (i + 1) = s_fb S i) : s_gl S (i + 1) = s_gl S i := by unfold s_gl; rw [hb]
def s_sl (S : St) : Nat → Nat
  | 0 => 0
  | i + 1 => s_sl S i + s_lag S i
theorem s_sl_le {S : St} (hn : s_n S ≤ 48) : ∀ i, s_sl S i ≤ 48 * i := by
  intro i
  induction i with
  | zero => exact Nat.le_refl _
  | succ i ih => unfold s_sl; have := s_lag_le S i; omega
def s_ml (S : St) : UInt64 := if s_sh S = 0 then FP.dconst0 else FP.ddiv (FP.i2d (nI (s_sl S (s_sh S)))) (FP.i2d (nI (s_sh S)))
def s_wc (S : St) : Nat := cm (s_cm S) 0 (s_n S)
def s_wm (S : St) (i : Nat) : Nat := cm (s_cm S) (pf (s_off S) (s_at S i) (s_n S)) (s_n S)
def mx (d : Int64) (x : Int32) : Int64 := d * 31 + x.toInt64
def dKeys (S : St) (d : Int64) : Nat → Int64
  | 0 => d
  | c + 1 => mx (mx (mx (dKeys S d c) (s_lo S (nI c))) (s_wv S (nI c))) (nI (cnt (s_key S) (nI c) (s_n S)))
def dStorms (S : St) (d : Int64) : Nat → Int64
  | 0 => d
  | c + 1 => mx (mx (dStorms S d c) (s_said S c)) (nI (cnt (s_sto S) (nI c) (s_n S)))
def dShips (S : St) (d : Int64) : Nat → Int64
  | 0 => d
  | i + 1 => mx (mx (mx (mx (mx (mx (mx (dShips S d i) (s_at S i)) (nI (s_lag S i))) (s_hd S i)) (s_ms S i)) (nI (s_ea S i 0))) (s_un S i)) (nI (s_wm S i))
def s_first (S : St) : Int32 := if s_n S = 0 then -1 else s_off S 0
def s_d0 (S : St) : Int64 := mx (mx (mx (mx (mx (mx (mx (mx (mx (mx 1787 (s_hr S)) (nI (s_n S))) (s_nx S)) (s_first S)) (s_dr S)) (nI (s_sc S))) (if s_on S = 0 then 0 else 1)) (nI (s_sh S))) (oI (s_fb S (s_sh S)))) (nI (s_wc S))
def s_dg (S : St) : Int64 := dShips S (dStorms S (dKeys S (s_d0 S) 10) (s_sc S)) (s_sh S)
end
section
theorem mkU_ge {g mk : Nat → Int32} {n i : Nat} (h : ¬ i < n) : mkU g mk n i = mk i := by simp [mkU, h]
theorem S_spk_0 {S T : St} {k v : Int32} (h1 : S_room S = T) (h2 : s_on T = 0) (h3 : s_on T = s_on S) : S_spk S k v = S_app T k v (-1) := by
  unfold S_spk S_cntd s_tag
  rw [h1, ← h3, if_pos h2, if_pos h2]
theorem S_spk_1 {S T : St} {k v : Int32} (h1 : S_room S = T) (h2 : ¬ s_on T = 0) (h3 : s_on T = s_on S) (h4 : s_sc T = s_sc S) : S_spk S k v = S_app (S_said T (upd (s_said T) (s_sc T - 1) (s_said T (s_sc T - 1) + 1))) k v (nI (s_sc T - 1)) := by
  unfold S_spk S_cntd s_tag
  rw [h1, ← h3, ← h4, if_neg h2, if_neg h2]
theorem S_room_keep (S : St) : s_sc (S_room S) = s_sc S ∧ s_on (S_room S) = s_on S ∧ s_sh (S_room S) = s_sh S ∧ s_nx (S_room S) = s_nx S ∧ s_pc (S_room S) = s_pc S := by
  unfold S_room
  split <;> exact ⟨rfl, rfl, rfl, rfl, rfl⟩
theorem S_spk_keep (S : St) (k v : Int32) : s_sc (S_spk S k v) = s_sc S ∧ s_on (S_spk S k v) = s_on S ∧ s_sh (S_spk S k v) = s_sh S ∧ s_nx (S_spk S k v) = s_nx S + 1 ∧ s_n (S_spk S k v) = s_n (S_room S) + 1 ∧ s_pc (S_spk S k v) = s_pc S := by
  obtain ⟨h1, h2, h3, h4, h5⟩ := S_room_keep S
  have e : ∀ T : St, s_sc (S_cntd T) = s_sc T ∧ s_on (S_cntd T) = s_on T ∧ s_sh (S_cntd T) = s_sh T ∧ s_nx (S_cntd T) = s_nx T ∧ s_n (S_cntd T) = s_n T ∧ s_pc (S_cntd T) = s_pc T := by
    intro T
    unfold S_cntd
    split <;> exact ⟨rfl, rfl, rfl, rfl, rfl, rfl⟩
  obtain ⟨g1, g2, g3, g4, g5, g6⟩ := e (S_room S)
  refine ⟨g1.trans h1, g2.trans h2, g3.trans h3, ?_, ?_, g6.trans h5⟩
  · show s_nx (S_cntd (S_room S)) + 1 = _
    rw [g4, h4]
  · show s_n (S_cntd (S_room S)) + 1 = _
    rw [g5]
/-- what a replay says, one behind the other -/
def S_rp (S : St) (ks vs : Nat → Int32) : Nat → St
  | 0 => S
  | i + 1 => S_spk (S_rp S ks vs i) (ks i) (vs i)
def mk_rp (S : St) (ks vs mk : Nat → Int32) : Nat → (Nat → Int32)
  | 0 => mk
  | i + 1 => mk_spk (S_rp S ks vs i) (mk_rp S ks vs mk i)
theorem S_rp_congr {S : St} {ks vs ks' vs' mk : Nat → Int32} : ∀ n, (∀ i, i < n → ks i = ks' i ∧ vs i = vs' i) → S_rp S ks vs n = S_rp S ks' vs' n ∧ mk_rp S ks vs mk n = mk_rp S ks' vs' mk n := by
  intro n
  induction n with
  | zero => intro _; exact ⟨rfl, rfl⟩
  | succ n ih =>
    intro h
    obtain ⟨h1, h2⟩ := ih (fun i hi => h i (by omega))
    obtain ⟨h3, h4⟩ := h n (by omega)
    unfold S_rp mk_rp
    rw [h1, h2, h3, h4]
    exact ⟨rfl, rfl⟩
theorem S_rp_keep (S : St) (hn : s_n S ≤ 48) (ks vs : Nat → Int32) : ∀ i, s_sc (S_rp S ks vs i) = s_sc S ∧ s_on (S_rp S ks vs i) = s_on S ∧ s_sh (S_rp S ks vs i) = s_sh S ∧ s_n (S_rp S ks vs i) ≤ 48 ∧ s_pc (S_rp S ks vs i) = s_pc S := by
  intro i
  induction i with
  | zero => exact ⟨rfl, rfl, rfl, hn, rfl⟩
  | succ i ih =>
    obtain ⟨h1, h2, h3, h4, h5⟩ := ih
    obtain ⟨g1, g2, g3, g4, g5, g6⟩ := S_spk_keep (S_rp S ks vs i) (ks i) (vs i)
    have := S_room_n h4
    refine ⟨g1.trans h1, g2.trans h2, g3.trans h3, ?_, g6.trans h5⟩
    show s_n (S_spk (S_rp S ks vs i) (ks i) (vs i)) ≤ 48
    omega
abbrev s_rk (S : St) (x : Int32) : Nat → Int32 := flF (s_key S) (s_sto S) x (fun _ => 0) (s_n S)
abbrev s_rv (S : St) (x : Int32) : Nat → Int32 := flF (s_val S) (s_sto S) x (fun _ => 0) (s_n S)
def S_rpl (S : St) (x : Int32) : St := S_rp S (s_rk S x) (s_rv S x) (cnt (s_sto S) x (s_n S))
def mk_rpl (S : St) (x : Int32) (mk : Nat → Int32) : Nat → Int32 := mk_rp S (s_rk S x) (s_rv S x) mk (cnt (s_sto S) x (s_n S))
theorem S_rpl_of (S : St) (x : Int32) (g g' mk : Nat → Int32) : S_rp S (flF (s_key S) (s_sto S) x g (s_n S)) (flF (s_val S) (s_sto S) x g' (s_n S)) (cnt (s_sto S) x (s_n S)) = S_rpl S x ∧ mk_rp S (flF (s_key S) (s_sto S) x g (s_n S)) (flF (s_val S) (s_sto S) x g' (s_n S)) mk (cnt (s_sto S) x (s_n S)) = mk_rpl S x mk :=
  S_rp_congr _ (fun i hi => ⟨flF_eq _ _ _ _ _ _ _ hi, flF_eq _ _ _ _ _ _ _ hi⟩)
section GE3
variable {p : Program} {l : Launch} {e : Env} {R : Room} {s : State} {m : MethodId} {args : Array Value} {below : List Frame} {meth : Method} {c : Code} {H : Heap} {locs : List Loc} {cells slots : Nat} {Q : State → Prop}
variable {E : gE} {A : Nat → Prop} {ws ws' : va_W} {y : MethodName} {wl wl' : List Cond} {rm : Room} {av : List Value} {mc ms : Nat} {cc bytes : ByteArray} {maxL nL : Nat} {ret : Option FieldType} {Ts : List Cond} {own : String}
variable {pc : Nat} {ls : Array Slot} {rest : List Value} {index n : Nat} {Cn : String} {b : Nat} {As st0 : List Value} {host : String}
abbrev gXQr (E : gE) (A : Nat → Prop) (ok : Prop) (r : Nat) (ws' : va_W) : Array Value → State → Outcome → State → Prop := va_Qr (S := Unit) (fun _ => ok) (fun _ ra t => ra = r ∧ gB E A ws' t) A
def gXr (l : Launch) (E : gE) (y : MethodName) (wl : List Cond) (rm : Room) (ws : va_W) (av : List Value) (ok : Prop) (r : Nat) (ws' : va_W) (bad : String → Prop) (mc ms : Nat) : Prop := ∀ sz : Nat, vx_Met l y wl rm (gP E ws sz av) (gXQr E (va_A ws sz) ok r ws') (gXC E (va_A ws sz) bad ws) mc ms (va_A ws sz)
theorem gXr.of {ty : FieldType} {ok : Prop} {r : Nat} {bad : String → Prop} (hy : plainName y.cls = true) (hw : wl = Cond.code y cc maxL (some ty) :: wl') (hlen : (lg_sl av).length ≤ maxL)
    (body : ∀ p e s m args below meth c A, gCx p s m args meth c cc maxL wl y.cls (some ty) E A → (∀ x ∈ c.exceptionTable.toList, False) → ∀ ls : Array Slot, lv_has ls maxL (lv_args 0 av) → gO E A s ws s.heap [] → W p l e rm s m args below meth c s.heap [] 0 0 (vx_MQ below (gXQr E A ok r ws') (gXC E A bad ws) args s mc ms A) (F0 m 0 ls [])) : gXr l E y wl rm ws av ok r ws' bad mc ms := by
  intro sz
  refine vx_ofW (cc := cc) (maxL := maxL) (ret := some ty) hy hw ?_
  intro p e s m args below meth c s₁ B hml ht hv
  obtain ⟨rfl, hsz, hP, eo, hD0, hZ⟩ := hv
  have hts := atoms_spec (ws := wl) B.pre
  have hown : s.vm.findClass y.cls = some m.cls := findClass_of_methodNamed B.named
  subst hsz
  have hl := lv_entry av (n := maxL) hlen
  rw [lg_entry_eq]
  exact body p e s m av.toArray below meth c (va_A ws s.heap.size) ⟨B.exec, B.bytes, hml, hown, hts, B.returns, B.notSynchronized, eo, fun q h => Or.inr h, hZ⟩ ht _ hl ⟨hP, hD0.self (sz := s.heap.size), va_S.rf⟩
theorem gXRr {ty : FieldType} {r : Nat} {ok : Prop} {XC : String → State → State → Prop} (C : gCx p s m args meth c cc nL Ts own (some ty) E A) (hO : gO E A s ws' H locs) (hty : ∃ n, ty = .object n) (hok : ok) (hdg : decode cc pc = .ok (.areturn, 1)) (h1 : cells ≤ mc) (h2 : slots ≤ ms) : W p l e R s m args below meth c H locs cells slots (vx_MQ below (gXQr E A ok r ws') XC args s mc ms A) (F0 m pc ls [.ref r]) := by
  refine vx_ret (W.widen h1 h2 ?_)
  exact W.aret C.1 C.2.1 C.2.2.2.2.2.1 (Or.inl hty) (Or.inr ⟨r, rfl⟩) (fun t ht hW => ⟨⟨(), r, rfl, hok, rfl, by rw [ht]; exact hO.1, hO.2.1⟩, hO.2.2.F ht⟩) hO.2.2.2.2 hdg C.2.2.2.2.2.2.1
theorem gXcallr {S SX : Type} {post : S → Prop} {px : SX → Prop} {B : S → Nat → State → Prop} {BX : String → SX → State → Prop} {AX A0 A1 : Nat → Prop} {H0 : Heap} {a : Array Value} {free : Addr → Prop} (hr : vx_Run p l e R s m args below meth c H locs cells slots mc ms (F0 m pc ls st0) rest (va_Qr post B A1 a) (vx_X px BX AX) free) (hS : va_S A0 H0 H locs) (hA : ∀ q, q < H.size → A1 q → A0 q) (hf : ∀ q, free q → A0 q) (hAX : ∀ q, q < H.size → AX q → A0 q)
    (kx : ∀ (E : String) (ce : Cell) (q9 : Addr) (u : SX) (t : State) (H1 : Heap) (locs1 : List Loc), t.heap = H1 → s.vm.Alike t.vm → px u → BX E u t → H.size ≤ H1.size → (∀ q : Nat, q < H.size → ¬ AX q → H1[q]? = H[q]?) → va_S A0 H0 H1 locs1 → H1[q9]? = some ce → ce.vm = .none → s.vm.findClass E = some ce.cls → vx_W p l e R s m args below meth c H1 locs1 (cells + mc) (slots + ms) Q (F0 m pc ls rest) q9)
    (kk : ∀ (u : S) (ra : Nat) (t : State) (H1 : Heap) (locs1 : List Loc), t.heap = H1 → s.vm.Alike t.vm → post u → B u ra t → H.size ≤ H1.size → (∀ q : Nat, q < H.size → ¬ A1 q → H1[q]? = H[q]?) → va_S A0 H0 H1 locs1 → W p l e R s m args below meth c H1 locs1 (cells + mc) (slots + ms) Q (F0 m (pc + 3) ls (.ref ra :: rest))) : W p l e R s m args below meth c H locs cells slots Q (F0 m pc ls st0) := by
  intro T hT X
  rcases hr T hT X with ⟨v, st₀, t, T', L, h0, X', hL, e1, e2, ⟨⟨u, ra, hv, hp, hb⟩, hF⟩, st⟩ | ⟨q, st₀, t, T', L, E, ce, h0, X', hL, e1, e2, ⟨u, hp, hb, hF⟩, hce, hcv, hcl, st⟩
  · cases hv
    obtain ⟨k1, k2, k3⟩ := vx_keep h0 e1 hS hA hf hL hF
    obtain ⟨t2, a1, b1⟩ := kk u ra t T'.heap (locs ++ L) e1.symm (by rw [← e2]; exact X'.warmed.alike) hp hb k1 k2 k3 T' rfl X'
    exact ⟨t2, st t2 a1, b1⟩
  · obtain ⟨k1, k2, k3⟩ := vx_keep h0 e1 hS hAX hf hL hF
    obtain ⟨t2, a1, b1⟩ := kx E ce q u t T'.heap (locs ++ L) e1.symm (by rw [← e2]; exact X'.warmed.alike) hp hb k1 k2 k3 (by rw [e1]; exact hce) hcv hcl T' rfl X'
    exact ⟨t2, st.trans a1, b1⟩
theorem gXCall_r {r : Nat} {ok : Prop} {bad : String → Prop} (C : gCx p s m args meth c cc nL Ts own ret E A) (hO : gO E A s ws H locs) (hM : gXr l E y wl rm ws (.ref b :: As) ok r ws' bad mc ms) {ret1 : Option FieldType} (cw : CallW R s args own Cn index y bytes maxL ret1 wl rm mc ms n) (hrc : ∃ cell : Cell, H[b]? = some cell ∧ cell.vm.isStatics = false ∧ s.vm.findClass Cn = some cell.cls) (hn : As.length = n) (hsize : ls.size = nL) (hst : st0 = As.reverse ++ .ref b :: rest) (hW : (rest.map fun v => v.category).sum ≤ 8) (hdg : decode cc pc = .ok (.invokevirtual index, 3)) (hf : cells + mc ≤ R.cells ∧ slots + ms ≤ R.slots)
    (kx : ∀ (E0 : String) (ce : Cell) (q9 : Addr) (H1 : Heap) (locs1 : List Loc), gO E A s ws H1 locs1 → H1[q9]? = some ce → ce.vm = .none → s.vm.findClass E0 = some ce.cls → bad E0 → vx_W p l e R s m args below meth c H1 locs1 (cells + mc) (slots + ms) Q (F0 m pc ls rest) q9)
    (kk : ∀ (H1 : Heap) (locs1 : List Loc), gO E A s ws' H1 locs1 → ok → W p l e R s m args below meth c H1 locs1 (cells + mc) (slots + ms) Q (F0 m (pc + 3) ls (.ref r :: rest))) : W p l e R s m args below meth c H locs cells slots Q (F0 m pc ls st0) := by
  refine gXcallr (vx_runV (As := As) (rest := rest) C.fix (hM H.size) cw ⟨gP_blind, hrc, fun U hU hW => gPre C hO hU hW _⟩ rfl hn hsize hst (lv_room hW) hdg hf) hO.2.2 (fun q _ h => gO.free C.2.2.2.2.2.2.2.2.1 hO q h) (gO.free C.2.2.2.2.2.2.2.2.1 hO) (fun q _ h => gO.free C.2.2.2.2.2.2.2.2.1 hO q h) (fun E0 ce q9 u t H1 locs1 ht hvm hpx hBX hz1 hk1 hS hce hcv hcl => ?_) (fun u ra t H1 locs1 ht hvm hw hB hz1 hk1 hS => ?_)
  · exact kx E0 ce q9 H1 locs1 (gBack C hO ht hBX.2 hS) hce hcv hcl hBX.1
  · obtain ⟨hra, hB⟩ := hB
    subst hra
    exact kk H1 locs1 (gBack C hO ht hB hS) hw
end GE3
end
section
set_option maxHeartbeats 4000000 in
set_option maxRecDepth 100000 in
theorem c_X2_isKey (l : Launch) (E : gE) (a : Nat → Nat) (S : St) (mk rk rv : Nat → Int32) (F : va_W) (k : Int32) : gMi l E yX2_isKey wsX2_isKey ({ frames := 0, cells := 0, slots := 0, locals := 0 }) (xW E a S mk rk rv ++ F) [.int k] (if okKey k then 1 else 0) (xW E a S mk rk rv ++ F) 0 0 := by
  refine gMi.of (cc := cX2_isKey) (maxL := 1) (ty := .boolean) (by decide) rfl (Nat.le_of_ble_eq_true rfl) ?_
  intro p e s m args below meth c A C ls hl hO
  have hl : lv_has ls 1 [(0, .int k)] := hl
  refine lv_iload_n C.1 C.2.1 dX2_isKey_0 rfl (lv_at hl 0 rfl) ?_
  refine lv_if_lt (tgt := 14) C.1 C.2.1 dX2_isKey_1 (by decide) (fun c_1 => ?_) (fun c_1 => ?_)
  · have hz9 : ¬ okKey k := fun g => g.1 c_1
    refine lv_iconst (v := 0) C.1 C.2.1 dX2_isKey_14 (by decide) ?_
    exact gRi C hO rfl (by first | exact ((if_pos hz9).symm) | exact ((if_neg hz9).symm)) dX2_isKey_15 (Nat.le_of_ble_eq_true rfl) (Nat.le_of_ble_eq_true rfl)
  · refine lv_iload_n C.1 C.2.1 dX2_isKey_4 rfl (lv_at hl 0 rfl) ?_
    refine lv_bipush (v := nI 10) C.1 C.2.1 dX2_isKey_5 (by decide) ?_
    refine gGeI (tgt := 14) C.1 C.2.1 dX2_isKey_7 (by decide) (fun c_2 => ?_) (fun c_2 => ?_)
    · have hz9 : ¬ okKey k := fun g => c_2 g.2
      refine lv_iconst (v := 0) C.1 C.2.1 dX2_isKey_14 (by decide) ?_
      exact gRi C hO rfl (by first | exact ((if_pos hz9).symm) | exact ((if_neg hz9).symm)) dX2_isKey_15 (Nat.le_of_ble_eq_true rfl) (Nat.le_of_ble_eq_true rfl)
    · have hz9 : okKey k := ⟨c_1, c_2⟩
      refine lv_iconst (v := 1) C.1 C.2.1 dX2_isKey_10 (by decide) ?_
      refine lv_goto (tgt := 15) C.1 C.2.1 dX2_isKey_11 (by decide) ?_
      exact gRi C hO rfl (by first | exact ((if_pos hz9).symm) | exact ((if_neg hz9).symm)) dX2_isKey_15 (Nat.le_of_ble_eq_true rfl) (Nat.le_of_ble_eq_true rfl)

set_option maxHeartbeats 4000000 in
set_option maxRecDepth 100000 in
theorem c_X2_checkKey (l : Launch) (E : gE) (a : Nat → Nat) (S : St) (mk rk rv : Nat → Int32) (F : va_W) (k : Int32) (hst : l.stackTraces = false) : gXv l E yX2_checkKey wsX2_checkKey ({ frames := 6, cells := 1, slots := 6, locals := 82 }) (xW E a S mk rk rv ++ F) [.int k] (okKey k) (xW E a S mk rk rv ++ F) (fun En => En = xIOE ∧ ¬ okKey k) 1 6 := by
  refine gXv.of (cc := cX2_checkKey) (maxL := 1) (by decide) rfl (Nat.le_of_ble_eq_true rfl) ?_
  intro p e s m args below meth c A C ht ls hl hO
  have hl : lv_has ls 1 [(0, .int k)] := hl
  have gwIOE : ∀ w ∈ (vx_atS RX2 245 "java/lang/IndexOutOfBoundsException" ["java/lang/RuntimeException", "java/lang/Exception"]).filter goodWord, w ∈ wsX2_checkKey := by decide +kernel
  have gNIOE : ∀ w ∈ (vx_atS RX2 245 "java/lang/IndexOutOfBoundsException" ["java/lang/RuntimeException", "java/lang/Exception"]).filter (fun w => !goodWord w), w ∈ eNw := by decide +kernel
  refine lv_iload_n C.1 C.2.1 dX2_checkKey_0 rfl (lv_at hl 0 rfl) ?_
  refine gCallS_i (As := [.int k]) (rest := []) C hO (c_X2_isKey l E a S mk rk rv F k) (cwS 1 C.2.2.2.2.1 gX2_checkKey_X2_isKey rfl rfl rfl (by decide +kernel) ⟨(Nat.le_of_ble_eq_true rfl), (Nat.le_of_ble_eq_true rfl)⟩) rfl hl.1 rfl (Nat.le_of_ble_eq_true rfl) dX2_checkKey_1 ⟨(Nat.le_of_ble_eq_true rfl), (Nat.le_of_ble_eq_true rfl)⟩ (fun H locs hO => ?_)
  refine lv_if_ne (tgt := 17) C.1 C.2.1 dX2_checkKey_4 (by decide) (fun c_1 => ?_) (fun c_1 => ?_)
  · have hz := bT c_1
    exact gXRv C hO hz dX2_checkKey_17 (Nat.le_of_ble_eq_true rfl) (Nat.le_of_ble_eq_true rfl)
  · have hz := bF c_1
    exact gThrow (E0 := "java/lang/IndexOutOfBoundsException") (text := "key is not 0 to 9") C hst hO ht hl.1 (by decide +kernel) (C.2.2.2.2.1 (.classLink RX2 243 "java/lang/IndexOutOfBoundsException") (by decide +kernel)) (C.2.2.2.2.1 (.initialized "java/lang/IndexOutOfBoundsException") (by decide +kernel)) (C.2.2.2.2.2.2.2.1.2.2.1 (39, "key is not 0 to 9") (by decide +kernel)) (vx_hat (fun w hw => C.2.2.2.2.1 w (gwIOE w hw)) gNIOE (gNb C)) (by decide +kernel) (⟨rfl, hz⟩) dX2_checkKey_7 dX2_checkKey_10 dX2_checkKey_11 dX2_checkKey_13 dX2_checkKey_16 (Nat.le_of_ble_eq_true rfl) (Nat.le_of_ble_eq_true rfl) (Nat.le_of_ble_eq_true rfl) (Nat.le_of_ble_eq_true rfl) (Nat.le_of_ble_eq_true rfl) (Nat.le_of_ble_eq_true rfl) 

set_option maxHeartbeats 4000000 in
set_option maxRecDepth 100000 in
theorem c_X2_checkHours (l : Launch) (E : gE) (a : Nat → Nat) (S : St) (mk rk rv : Nat → Int32) (F : va_W) (h : Int32) (hst : l.stackTraces = false) : gXv l E yX2_checkHours wsX2_checkHours ({ frames := 6, cells := 1, slots := 6, locals := 82 }) (xW E a S mk rk rv ++ F) [.int h] (okHours h) (xW E a S mk rk rv ++ F) (fun En => En = xIAE ∧ ¬ okHours h) 1 6 := by
  refine gXv.of (cc := cX2_checkHours) (maxL := 1) (by decide) rfl (Nat.le_of_ble_eq_true rfl) ?_
  intro p e s m args below meth c A C ht ls hl hO
  have hl : lv_has ls 1 [(0, .int h)] := hl
  have gwIAE : ∀ w ∈ (vx_atS RX2 41 "java/lang/IllegalArgumentException" ["java/lang/RuntimeException", "java/lang/Exception"]).filter goodWord, w ∈ wsX2_checkHours := by decide +kernel
  have gNIAE : ∀ w ∈ (vx_atS RX2 41 "java/lang/IllegalArgumentException" ["java/lang/RuntimeException", "java/lang/Exception"]).filter (fun w => !goodWord w), w ∈ eNw := by decide +kernel
  refine lv_iload_n C.1 C.2.1 dX2_checkHours_0 rfl (lv_at hl 0 rfl) ?_
  refine lv_iconst (v := 1) C.1 C.2.1 dX2_checkHours_1 (by decide) ?_
  refine lv_icmp_lt (tgt := 11) C.1 C.2.1 dX2_checkHours_2 (by decide) (fun c_1 => ?_) (fun c_1 => ?_)
  · exact gThrow (E0 := "java/lang/IllegalArgumentException") (text := "hours is not 1 to 60") C hst hO ht hl.1 (by decide +kernel) (C.2.2.2.2.1 (.classLink RX2 37 "java/lang/IllegalArgumentException") (by decide +kernel)) (C.2.2.2.2.1 (.initialized "java/lang/IllegalArgumentException") (by decide +kernel)) (C.2.2.2.2.2.2.2.1.2.2.1 (246, "hours is not 1 to 60") (by decide +kernel)) (vx_hat (fun w hw => C.2.2.2.2.1 w (gwIAE w hw)) gNIAE (gNb C)) (by decide +kernel) (by first | exact ⟨rfl, fun g => g.1 c_1⟩ | exact ⟨rfl, fun g => g.2 c_2⟩) dX2_checkHours_11 dX2_checkHours_14 dX2_checkHours_15 dX2_checkHours_17 dX2_checkHours_20 (Nat.le_of_ble_eq_true rfl) (Nat.le_of_ble_eq_true rfl) (Nat.le_of_ble_eq_true rfl) (Nat.le_of_ble_eq_true rfl) (Nat.le_of_ble_eq_true rfl) (Nat.le_of_ble_eq_true rfl) 
  · refine lv_iload_n C.1 C.2.1 dX2_checkHours_5 rfl (lv_at hl 0 rfl) ?_
    refine lv_bipush (v := nI 60) C.1 C.2.1 dX2_checkHours_6 (by decide) ?_
    refine gLeI (tgt := 21) C.1 C.2.1 dX2_checkHours_8 (by decide) (fun c_2 => ?_) (fun c_2 => ?_)
    · exact gXRv C hO (⟨c_1, c_2⟩) dX2_checkHours_21 (Nat.le_of_ble_eq_true rfl) (Nat.le_of_ble_eq_true rfl)
    · exact gThrow (E0 := "java/lang/IllegalArgumentException") (text := "hours is not 1 to 60") C hst hO ht hl.1 (by decide +kernel) (C.2.2.2.2.1 (.classLink RX2 37 "java/lang/IllegalArgumentException") (by decide +kernel)) (C.2.2.2.2.1 (.initialized "java/lang/IllegalArgumentException") (by decide +kernel)) (C.2.2.2.2.2.2.2.1.2.2.1 (246, "hours is not 1 to 60") (by decide +kernel)) (vx_hat (fun w hw => C.2.2.2.2.1 w (gwIAE w hw)) gNIAE (gNb C)) (by decide +kernel) (by first | exact ⟨rfl, fun g => g.1 c_1⟩ | exact ⟨rfl, fun g => g.2 c_2⟩) dX2_checkHours_11 dX2_checkHours_14 dX2_checkHours_15 dX2_checkHours_17 dX2_checkHours_20 (Nat.le_of_ble_eq_true rfl) (Nat.le_of_ble_eq_true rfl) (Nat.le_of_ble_eq_true rfl) (Nat.le_of_ble_eq_true rfl) (Nat.le_of_ble_eq_true rfl) (Nat.le_of_ble_eq_true rfl) 

set_option maxHeartbeats 4000000 in
set_option maxRecDepth 100000 in
theorem c_X2_checkReachable (l : Launch) (E : gE) (a : Nat → Nat) (S : St) (mk rk rv : Nat → Int32) (F : va_W) (o : Int32) (hst : l.stackTraces = false) : gXv l E yX2_checkReachable wsX2_checkReachable ({ frames := 6, cells := 1, slots := 6, locals := 82 }) (xW E a S mk rk rv ++ F) [.ref (a 0), .int o] (okOff S o) (xW E a S mk rk rv ++ F) (fun En => En = xIAE ∧ ¬ okOff S o) 1 6 := by
  refine gXv.of (cc := cX2_checkReachable) (maxL := 2) (by decide) rfl (Nat.le_of_ble_eq_true rfl) ?_
  intro p e s m args below meth c A C ht ls hl hO
  have hl : lv_has ls 2 [(0, .ref (a 0)), (1, .int o)] := hl
  have iX0 : ∀ w ∈ u_ws RX0 TX0 8, w ∈ wsX2_checkReachable := by decide +kernel
  have iX2 : ∀ w ∈ u_ws RX2 TX2 9, w ∈ wsX2_checkReachable := by decide +kernel
  have w10 : Cond.fieldLink RX2 10 "ParrotLog" "log" "LParrotLog$Log;" ∈ wsX2_checkReachable := by decide +kernel
  have gwIAE : ∀ w ∈ (vx_atS RX2 41 "java/lang/IllegalArgumentException" ["java/lang/RuntimeException", "java/lang/Exception"]).filter goodWord, w ∈ wsX2_checkReachable := by decide +kernel
  have gNIAE : ∀ w ∈ (vx_atS RX2 41 "java/lang/IllegalArgumentException" ["java/lang/RuntimeException", "java/lang/Exception"]).filter (fun w => !goodWord w), w ∈ eNw := by decide +kernel
  refine lv_iload_n C.1 C.2.1 dX2_checkReachable_0 rfl (lv_at hl 1 rfl) ?_
  refine lv_if_lt (tgt := 15) C.1 C.2.1 dX2_checkReachable_1 (by decide) (fun c_1 => ?_) (fun c_1 => ?_)
  · exact gThrow (E0 := "java/lang/IllegalArgumentException") (text := "offset is not 0 to the next one") C hst hO ht hl.1 (by decide +kernel) (C.2.2.2.2.1 (.classLink RX2 37 "java/lang/IllegalArgumentException") (by decide +kernel)) (C.2.2.2.2.1 (.initialized "java/lang/IllegalArgumentException") (by decide +kernel)) (C.2.2.2.2.2.2.2.1.2.2.1 (248, "offset is not 0 to the next one") (by decide +kernel)) (vx_hat (fun w hw => C.2.2.2.2.1 w (gwIAE w hw)) gNIAE (gNb C)) (by decide +kernel) (by first | exact ⟨rfl, fun g => g.1 c_1⟩ | exact ⟨rfl, fun g => g.2 c_2⟩) dX2_checkReachable_15 dX2_checkReachable_18 dX2_checkReachable_19 dX2_checkReachable_21 dX2_checkReachable_24 (Nat.le_of_ble_eq_true rfl) (Nat.le_of_ble_eq_true rfl) (Nat.le_of_ble_eq_true rfl) (Nat.le_of_ble_eq_true rfl) (Nat.le_of_ble_eq_true rfl) (Nat.le_of_ble_eq_true rfl) 
  · refine lv_iload_n C.1 C.2.1 dX2_checkReachable_4 rfl (lv_at hl 1 rfl) ?_
    refine lv_aload_n C.1 C.2.1 dX2_checkReachable_5 rfl (lv_at hl 0 rfl) ?_
    refine gGet (v := .ref (a 1)) (ref := RX2) (Cn := RX2) (T := TX2) (N := 9) C iX2 hO 0 rfl rfl 0 (by decide) w10 (fun _ h9 => h9) rfl dX2_checkReachable_6 ?_
    refine gGetN (v := .int (s_nx S)) (ref := RX0) (Cn := RX0) (T := TX0) (N := 8) (host := RX2) C iX0 hO 1 rfl rfl 6 (by decide) (by decide +kernel) (fun _ h9 => h9) rfl dX2_checkReachable_9 ?_
    refine gLeI (tgt := 25) C.1 C.2.1 dX2_checkReachable_12 (by decide) (fun c_2 => ?_) (fun c_2 => ?_)
    · exact gXRv C hO (⟨c_1, c_2⟩) dX2_checkReachable_25 (Nat.le_of_ble_eq_true rfl) (Nat.le_of_ble_eq_true rfl)
    · exact gThrow (E0 := "java/lang/IllegalArgumentException") (text := "offset is not 0 to the next one") C hst hO ht hl.1 (by decide +kernel) (C.2.2.2.2.1 (.classLink RX2 37 "java/lang/IllegalArgumentException") (by decide +kernel)) (C.2.2.2.2.1 (.initialized "java/lang/IllegalArgumentException") (by decide +kernel)) (C.2.2.2.2.2.2.2.1.2.2.1 (248, "offset is not 0 to the next one") (by decide +kernel)) (vx_hat (fun w hw => C.2.2.2.2.1 w (gwIAE w hw)) gNIAE (gNb C)) (by decide +kernel) (by first | exact ⟨rfl, fun g => g.1 c_1⟩ | exact ⟨rfl, fun g => g.2 c_2⟩) dX2_checkReachable_15 dX2_checkReachable_18 dX2_checkReachable_19 dX2_checkReachable_21 dX2_checkReachable_24 (Nat.le_of_ble_eq_true rfl) (Nat.le_of_ble_eq_true rfl) (Nat.le_of_ble_eq_true rfl) (Nat.le_of_ble_eq_true rfl) (Nat.le_of_ble_eq_true rfl) (Nat.le_of_ble_eq_true rfl) 

set_option maxHeartbeats 4000000 in
set_option maxRecDepth 100000 in
theorem c_X2_checkStorm (l : Launch) (E : gE) (a : Nat → Nat) (S : St) (mk rk rv : Nat → Int32) (F : va_W) (x : Int32) (hst : l.stackTraces = false) : gXv l E yX2_checkStorm wsX2_checkStorm ({ frames := 6, cells := 1, slots := 6, locals := 82 }) (xW E a S mk rk rv ++ F) [.ref (a 0), .int x] (okStorm S x) (xW E a S mk rk rv ++ F) (fun En => En = xIOE ∧ ¬ okStorm S x) 1 6 := by
  refine gXv.of (cc := cX2_checkStorm) (maxL := 2) (by decide) rfl (Nat.le_of_ble_eq_true rfl) ?_
  intro p e s m args below meth c A C ht ls hl hO
  have hl : lv_has ls 2 [(0, .ref (a 0)), (1, .int x)] := hl
  have iX2 : ∀ w ∈ u_ws RX2 TX2 9, w ∈ wsX2_checkStorm := by decide +kernel
  have w59 : Cond.fieldLink RX2 59 "ParrotLog" "stormCount" "I" ∈ wsX2_checkStorm := by decide +kernel
  have gwIOE : ∀ w ∈ (vx_atS RX2 245 "java/lang/IndexOutOfBoundsException" ["java/lang/RuntimeException", "java/lang/Exception"]).filter goodWord, w ∈ wsX2_checkStorm := by decide +kernel
  have gNIOE : ∀ w ∈ (vx_atS RX2 245 "java/lang/IndexOutOfBoundsException" ["java/lang/RuntimeException", "java/lang/Exception"]).filter (fun w => !goodWord w), w ∈ eNw := by decide +kernel
  refine lv_iload_n C.1 C.2.1 dX2_checkStorm_0 rfl (lv_at hl 1 rfl) ?_
  refine lv_if_lt (tgt := 12) C.1 C.2.1 dX2_checkStorm_1 (by decide) (fun c_1 => ?_) (fun c_1 => ?_)
  · exact gThrow (E0 := "java/lang/IndexOutOfBoundsException") (text := "there is no such storm") C hst hO ht hl.1 (by decide +kernel) (C.2.2.2.2.1 (.classLink RX2 243 "java/lang/IndexOutOfBoundsException") (by decide +kernel)) (C.2.2.2.2.1 (.initialized "java/lang/IndexOutOfBoundsException") (by decide +kernel)) (C.2.2.2.2.2.2.2.1.2.2.1 (250, "there is no such storm") (by decide +kernel)) (vx_hat (fun w hw => C.2.2.2.2.1 w (gwIOE w hw)) gNIOE (gNb C)) (by decide +kernel) (by first | exact ⟨rfl, fun g => g.1 c_1⟩ | exact ⟨rfl, fun g => c_2 g.2⟩) dX2_checkStorm_12 dX2_checkStorm_15 dX2_checkStorm_16 dX2_checkStorm_18 dX2_checkStorm_21 (Nat.le_of_ble_eq_true rfl) (Nat.le_of_ble_eq_true rfl) (Nat.le_of_ble_eq_true rfl) (Nat.le_of_ble_eq_true rfl) (Nat.le_of_ble_eq_true rfl) (Nat.le_of_ble_eq_true rfl) 
  · refine lv_iload_n C.1 C.2.1 dX2_checkStorm_4 rfl (lv_at hl 1 rfl) ?_
    refine lv_aload_n C.1 C.2.1 dX2_checkStorm_5 rfl (lv_at hl 0 rfl) ?_
    refine gGet (v := .int (nI (s_sc S))) (ref := RX2) (Cn := RX2) (T := TX2) (N := 9) C iX2 hO 0 rfl rfl 6 (by decide) w59 (fun _ h9 => h9) rfl dX2_checkStorm_6 ?_
    refine lv_icmp_lt (tgt := 22) C.1 C.2.1 dX2_checkStorm_9 (by decide) (fun c_2 => ?_) (fun c_2 => ?_)
    · exact gXRv C hO (⟨c_1, c_2⟩) dX2_checkStorm_22 (Nat.le_of_ble_eq_true rfl) (Nat.le_of_ble_eq_true rfl)
    · exact gThrow (E0 := "java/lang/IndexOutOfBoundsException") (text := "there is no such storm") C hst hO ht hl.1 (by decide +kernel) (C.2.2.2.2.1 (.classLink RX2 243 "java/lang/IndexOutOfBoundsException") (by decide +kernel)) (C.2.2.2.2.1 (.initialized "java/lang/IndexOutOfBoundsException") (by decide +kernel)) (C.2.2.2.2.2.2.2.1.2.2.1 (250, "there is no such storm") (by decide +kernel)) (vx_hat (fun w hw => C.2.2.2.2.1 w (gwIOE w hw)) gNIOE (gNb C)) (by decide +kernel) (by first | exact ⟨rfl, fun g => g.1 c_1⟩ | exact ⟨rfl, fun g => c_2 g.2⟩) dX2_checkStorm_12 dX2_checkStorm_15 dX2_checkStorm_16 dX2_checkStorm_18 dX2_checkStorm_21 (Nat.le_of_ble_eq_true rfl) (Nat.le_of_ble_eq_true rfl) (Nat.le_of_ble_eq_true rfl) (Nat.le_of_ble_eq_true rfl) (Nat.le_of_ble_eq_true rfl) (Nat.le_of_ble_eq_true rfl) 

set_option maxHeartbeats 4000000 in
set_option maxRecDepth 100000 in
theorem c_X2_shipNumbered (l : Launch) (E : gE) (a : Nat → Nat) (S : St) (mk rk rv : Nat → Int32) (F : va_W) (x : Int32) (hst : l.stackTraces = false) (hsh : s_sh S ≤ 6) : gXr l E yX2_shipNumbered wsX2_shipNumbered ({ frames := 6, cells := 1, slots := 6, locals := 82 }) (xW E a S mk rk rv ++ F) [.ref (a 0), .int x] (okShip S x) (a (11 + x.toNatClampNeg)) (xW E a S mk rk rv ++ F) (fun En => En = xIOE ∧ ¬ okShip S x) 1 6 := by
  refine gXr.of (cc := cX2_shipNumbered) (maxL := 2) (ty := (.object "ParrotLog$Ship")) (by decide) rfl (Nat.le_of_ble_eq_true rfl) ?_
  intro p e s m args below meth c A C ht ls hl hO
  have hl : lv_has ls 2 [(0, .ref (a 0)), (1, .int x)] := hl
  have iX2 : ∀ w ∈ u_ws RX2 TX2 9, w ∈ wsX2_shipNumbered := by decide +kernel
  have w90 : Cond.fieldLink RX2 90 "ParrotLog" "shipCount" "I" ∈ wsX2_shipNumbered := by decide +kernel
  have w22 : Cond.fieldLink RX2 22 "ParrotLog" "fleet" "[LParrotLog$Ship;" ∈ wsX2_shipNumbered := by decide +kernel
  have gwIOE : ∀ w ∈ (vx_atS RX2 245 "java/lang/IndexOutOfBoundsException" ["java/lang/RuntimeException", "java/lang/Exception"]).filter goodWord, w ∈ wsX2_shipNumbered := by decide +kernel
  have gNIOE : ∀ w ∈ (vx_atS RX2 245 "java/lang/IndexOutOfBoundsException" ["java/lang/RuntimeException", "java/lang/Exception"]).filter (fun w => !goodWord w), w ∈ eNw := by decide +kernel
  refine lv_iload_n C.1 C.2.1 dX2_shipNumbered_0 rfl (lv_at hl 1 rfl) ?_
  refine lv_if_lt (tgt := 12) C.1 C.2.1 dX2_shipNumbered_1 (by decide) (fun c_1 => ?_) (fun c_1 => ?_)
  · exact gThrow (E0 := "java/lang/IndexOutOfBoundsException") (text := "there is no such ship") C hst hO ht hl.1 (by decide +kernel) (C.2.2.2.2.1 (.classLink RX2 243 "java/lang/IndexOutOfBoundsException") (by decide +kernel)) (C.2.2.2.2.1 (.initialized "java/lang/IndexOutOfBoundsException") (by decide +kernel)) (C.2.2.2.2.2.2.2.1.2.2.1 (252, "there is no such ship") (by decide +kernel)) (vx_hat (fun w hw => C.2.2.2.2.1 w (gwIOE w hw)) gNIOE (gNb C)) (by decide +kernel) (by first | exact ⟨rfl, fun g => g.1 c_1⟩ | exact ⟨rfl, fun g => c_2 g.2⟩) dX2_shipNumbered_12 dX2_shipNumbered_15 dX2_shipNumbered_16 dX2_shipNumbered_18 dX2_shipNumbered_21 (Nat.le_of_ble_eq_true rfl) (Nat.le_of_ble_eq_true rfl) (Nat.le_of_ble_eq_true rfl) (Nat.le_of_ble_eq_true rfl) (Nat.le_of_ble_eq_true rfl) (Nat.le_of_ble_eq_true rfl) 
  · refine lv_iload_n C.1 C.2.1 dX2_shipNumbered_4 rfl (lv_at hl 1 rfl) ?_
    refine lv_aload_n C.1 C.2.1 dX2_shipNumbered_5 rfl (lv_at hl 0 rfl) ?_
    refine gGet (v := .int (nI (s_sh S))) (ref := RX2) (Cn := RX2) (T := TX2) (N := 9) C iX2 hO 0 rfl rfl 8 (by decide) w90 (fun _ h9 => h9) rfl dX2_shipNumbered_6 ?_
    refine lv_icmp_lt (tgt := 22) C.1 C.2.1 dX2_shipNumbered_9 (by decide) (fun c_2 => ?_) (fun c_2 => ?_)
    · have hj9 := okNat (by omega) c_1 c_2
      have hi9 : x.toNatClampNeg < 6 := by omega
      refine lv_aload_n C.1 C.2.1 dX2_shipNumbered_22 rfl (lv_at hl 0 rfl) ?_
      refine gGet (v := .ref (a 8)) (ref := RX2) (Cn := RX2) (T := TX2) (N := 9) C iX2 hO 0 rfl rfl 2 (by decide) w22 (fun _ h9 => h9) rfl dX2_shipNumbered_23 ?_
      refine lv_iload_n C.1 C.2.1 dX2_shipNumbered_26 rfl (lv_at hl 1 rfl) ?_
      refine lv_eqi (y := nI x.toNatClampNeg) hj9.2 ?_
      refine gAald (v := a (11 + x.toNatClampNeg)) (j := x.toNatClampNeg) C hO 8 rfl hi9 (by decide) (xFl_at hi9) dX2_shipNumbered_27 ?_
      exact gXRr C hO ⟨_, rfl⟩ (⟨c_1, c_2⟩) dX2_shipNumbered_28 (Nat.le_of_ble_eq_true rfl) (Nat.le_of_ble_eq_true rfl)
    · exact gThrow (E0 := "java/lang/IndexOutOfBoundsException") (text := "there is no such ship") C hst hO ht hl.1 (by decide +kernel) (C.2.2.2.2.1 (.classLink RX2 243 "java/lang/IndexOutOfBoundsException") (by decide +kernel)) (C.2.2.2.2.1 (.initialized "java/lang/IndexOutOfBoundsException") (by decide +kernel)) (C.2.2.2.2.2.2.2.1.2.2.1 (252, "there is no such ship") (by decide +kernel)) (vx_hat (fun w hw => C.2.2.2.2.1 w (gwIOE w hw)) gNIOE (gNb C)) (by decide +kernel) (by first | exact ⟨rfl, fun g => g.1 c_1⟩ | exact ⟨rfl, fun g => c_2 g.2⟩) dX2_shipNumbered_12 dX2_shipNumbered_15 dX2_shipNumbered_16 dX2_shipNumbered_18 dX2_shipNumbered_21 (Nat.le_of_ble_eq_true rfl) (Nat.le_of_ble_eq_true rfl) (Nat.le_of_ble_eq_true rfl) (Nat.le_of_ble_eq_true rfl) (Nat.le_of_ble_eq_true rfl) (Nat.le_of_ble_eq_true rfl) 

set_option maxHeartbeats 4000000 in
set_option maxRecDepth 100000 in
theorem c_X2_keptPosition (l : Launch) (E : gE) (a : Nat → Nat) (S : St) (mk rk rv : Nat → Int32) (F : va_W) (o : Int32) (hst : l.stackTraces = false) (hn : s_n S ≤ 48) : gXi l E yX2_keptPosition wsX2_keptPosition ({ frames := 6, cells := 1, slots := 6, locals := 82 }) (xW E a S mk rk rv ++ F) [.ref (a 0), .int o] (s_po S o ≠ none) (oI (s_po S o)) (xW E a S mk rk rv ++ F) (fun En => En = xIOE ∧ s_po S o = none) 1 6 := by
  refine gXi.of (cc := cX2_keptPosition) (maxL := 3) (ty := .int) (by decide) rfl (Nat.le_of_ble_eq_true rfl) ?_
  intro p e s m args below meth c A C ht ls hl hO
  have hl : lv_has ls 3 [(0, .ref (a 0)), (1, .int o)] := hl
  have iX2 : ∀ w ∈ u_ws RX2 TX2 9, w ∈ wsX2_keptPosition := by decide +kernel
  have w10 : Cond.fieldLink RX2 10 "ParrotLog" "log" "LParrotLog$Log;" ∈ wsX2_keptPosition := by decide +kernel
  have gwIOE : ∀ w ∈ (vx_atS RX2 245 "java/lang/IndexOutOfBoundsException" ["java/lang/RuntimeException", "java/lang/Exception"]).filter goodWord, w ∈ wsX2_keptPosition := by decide +kernel
  have gNIOE : ∀ w ∈ (vx_atS RX2 245 "java/lang/IndexOutOfBoundsException" ["java/lang/RuntimeException", "java/lang/Exception"]).filter (fun w => !goodWord w), w ∈ eNw := by decide +kernel
  refine lv_aload_n C.1 C.2.1 dX2_keptPosition_0 rfl (lv_at hl 0 rfl) ?_
  refine gGet (v := .ref (a 1)) (ref := RX2) (Cn := RX2) (T := TX2) (N := 9) C iX2 hO 0 rfl rfl 0 (by decide) w10 (fun _ h9 => h9) rfl dX2_keptPosition_1 ?_
  refine lv_iload_n C.1 C.2.1 dX2_keptPosition_4 rfl (lv_at hl 1 rfl) ?_
  refine gCallN_i (As := [.int o]) (rest := []) C hO (c_X0_positionOf l E a S mk rk rv F o (by omega)) ⟨va_cnB (host := RX2) 1 C.2.2.2.2.1 gX2_keptPosition_X0_positionOf_n130 rfl rfl rfl (C.2.2.2.2.2.2.2.1.2.1 (.methodLinkNest RX2 130 yX0_positionOf RX2) (by decide +kernel)) (C.2.2.2.2.1 (.initialized RX0) (by decide +kernel)) (by decide +kernel) ⟨(Nat.le_of_ble_eq_true rfl), (Nat.le_of_ble_eq_true rfl)⟩, C.2.2.2.2.1 (.instanceMethod yX0_positionOf) (by decide +kernel), C.2.2.2.2.1 (.selects RX0 yX0_positionOf yX0_positionOf) (by decide +kernel)⟩ (va_recv C.2.2.2.2.2.2.2.1.1 hO.1 (ci := 0) (q0 := 1) rfl rfl) rfl hl.1 rfl (Nat.le_of_ble_eq_true rfl) dX2_keptPosition_5 ⟨(Nat.le_of_ble_eq_true rfl), (Nat.le_of_ble_eq_true rfl)⟩ (fun H locs hO => ?_)
  refine lv_istore_n (lv' := [(2, .int (oI (s_po S o))), (0, .ref (a 0)), (1, .int o)]) C.1 C.2.1 dX2_keptPosition_8 rfl hl (by decide) rfl (fun ls hl => ?_)
  refine lv_iload_n C.1 C.2.1 dX2_keptPosition_9 rfl (lv_at hl 0 rfl) ?_
  refine lv_iconst (v := (-1)) C.1 C.2.1 dX2_keptPosition_10 (by decide) ?_
  refine lv_icmp_ne (tgt := 24) C.1 C.2.1 dX2_keptPosition_11 (by decide) (fun c_1 => ?_) (fun c_1 => ?_)
  · have hz : s_po S o ≠ none := fun g => c_1 (by rw [g]; rfl)
    refine lv_iload_n C.1 C.2.1 dX2_keptPosition_24 rfl (lv_at hl 0 rfl) ?_
    exact gXRi C hO rfl hz rfl dX2_keptPosition_25 (Nat.le_of_ble_eq_true rfl) (Nat.le_of_ble_eq_true rfl)
  · have hz : s_po S o = none := (oI_ne (fun i hi => by have := s_po_lt hi; omega)).mp c_1
    exact gThrow (E0 := "java/lang/IndexOutOfBoundsException") (text := "no phrase with this offset is kept") C hst hO ht hl.1 (by decide +kernel) (C.2.2.2.2.1 (.classLink RX2 243 "java/lang/IndexOutOfBoundsException") (by decide +kernel)) (C.2.2.2.2.1 (.initialized "java/lang/IndexOutOfBoundsException") (by decide +kernel)) (C.2.2.2.2.2.2.2.1.2.2.1 (254, "no phrase with this offset is kept") (by decide +kernel)) (vx_hat (fun w hw => C.2.2.2.2.1 w (gwIOE w hw)) gNIOE (gNb C)) (by decide +kernel) (⟨rfl, hz⟩) dX2_keptPosition_14 dX2_keptPosition_17 dX2_keptPosition_18 dX2_keptPosition_20 dX2_keptPosition_23 (Nat.le_of_ble_eq_true rfl) (Nat.le_of_ble_eq_true rfl) (Nat.le_of_ble_eq_true rfl) (Nat.le_of_ble_eq_true rfl) (Nat.le_of_ble_eq_true rfl) (Nat.le_of_ble_eq_true rfl) 

set_option maxHeartbeats 4000000 in
set_option maxRecDepth 100000 in
theorem c_X2_lag (l : Launch) (E : gE) (a : Nat → Nat) (S : St) (mk rk rv : Nat → Int32) (F : va_W) (i : Nat) (hn : s_n S ≤ 48) (hi : i < 6) : gMi l E yX2_lag wsX2_lag ({ frames := 1, cells := 0, slots := 0, locals := 22 }) (xW E a S mk rk rv ++ F) [.ref (a 0), .ref (a (11 + i))] (nI (s_lag S i)) (xW E a S mk rk rv ++ F) 0 0 := by
  refine gMi.of (cc := cX2_lag) (maxL := 2) (ty := .int) (by decide) rfl (Nat.le_of_ble_eq_true rfl) ?_
  intro p e s m args below meth c A C ls hl hO
  have hl : lv_has ls 2 [(0, .ref (a 0)), (1, .ref (a (11 + i)))] := hl
  have iX0 : ∀ w ∈ u_ws RX0 TX0 8, w ∈ wsX2_lag := by decide +kernel
  have iX1 : ∀ w ∈ u_ws RX1 TX1 5, w ∈ wsX2_lag := by decide +kernel
  have iX2 : ∀ w ∈ u_ws RX2 TX2 9, w ∈ wsX2_lag := by decide +kernel
  have w10 : Cond.fieldLink RX2 10 "ParrotLog" "log" "LParrotLog$Log;" ∈ wsX2_lag := by decide +kernel
  refine lv_aload_n C.1 C.2.1 dX2_lag_0 rfl (lv_at hl 0 rfl) ?_
  refine gGet (v := .ref (a 1)) (ref := RX2) (Cn := RX2) (T := TX2) (N := 9) C iX2 hO 0 rfl rfl 0 (by decide) w10 (fun _ h9 => h9) rfl dX2_lag_1 ?_
  refine gGetN (v := .int (nI (s_n S))) (ref := RX0) (Cn := RX0) (T := TX0) (N := 8) (host := RX2) C iX0 hO 1 rfl rfl 5 (by decide) (by decide +kernel) (fun _ h9 => h9) rfl dX2_lag_4 ?_
  refine lv_aload_n C.1 C.2.1 dX2_lag_7 rfl (lv_at hl 0 rfl) ?_
  refine gGet (v := .ref (a 1)) (ref := RX2) (Cn := RX2) (T := TX2) (N := 9) C iX2 hO 0 rfl rfl 0 (by decide) w10 (fun _ h9 => h9) rfl dX2_lag_8 ?_
  refine lv_aload_n C.1 C.2.1 dX2_lag_11 rfl (lv_at hl 1 rfl) ?_
  refine gGetN (v := .int ((s_at S) i)) (ref := RX1) (Cn := RX1) (T := TX1) (N := 5) (host := RX2) C iX1 hO (11 + i) (xw_ship hi) rfl 2 (by decide) (by decide +kernel) (fun _ h9 => h9) rfl dX2_lag_12 ?_
  refine gCallN_i (As := [.int ((s_at S) i)]) (rest := [.int (nI (s_n S))]) C hO (c_X0_positionFrom l E a S mk rk rv F ((s_at S) i) (by omega)) ⟨va_cnB (host := RX2) 1 C.2.2.2.2.1 gX2_lag_X0_positionFrom_n233 rfl rfl rfl (C.2.2.2.2.2.2.2.1.2.1 (.methodLinkNest RX2 233 yX0_positionFrom RX2) (by decide +kernel)) (C.2.2.2.2.1 (.initialized RX0) (by decide +kernel)) (by decide +kernel) ⟨(Nat.le_of_ble_eq_true rfl), (Nat.le_of_ble_eq_true rfl)⟩, C.2.2.2.2.1 (.instanceMethod yX0_positionFrom) (by decide +kernel), C.2.2.2.2.1 (.selects RX0 yX0_positionFrom yX0_positionFrom) (by decide +kernel)⟩ (va_recv C.2.2.2.2.2.2.2.1.1 hO.1 (ci := 0) (q0 := 1) rfl rfl) rfl hl.1 rfl (Nat.le_of_ble_eq_true rfl) dX2_lag_15 ⟨(Nat.le_of_ble_eq_true rfl), (Nat.le_of_ble_eq_true rfl)⟩ (fun H locs hO => ?_)
  refine gSubN (x := (s_n S)) (y := (pf (s_off S) ((s_at S) i) (s_n S))) C.1 C.2.1 (pf_le _ _ _) dX2_lag_18 ?_
  exact gRi C hO rfl rfl dX2_lag_19 (Nat.le_of_ble_eq_true rfl) (Nat.le_of_ble_eq_true rfl)

set_option maxHeartbeats 4000000 in
set_option maxRecDepth 100000 in
theorem c_X2_mostHeard (l : Launch) (E : gE) (a : Nat → Nat) (S : St) (mk rk rv : Nat → Int32) (F : va_W) (h9 q9 : Nat) : gMi l E yX2_mostHeard wsX2_mostHeard ({ frames := 0, cells := 0, slots := 0, locals := 0 }) (xW E a S mk rk rv ++ F) [.ref (a 0), .int (nI h9), .int (nI q9)] (nI (mhN S h9 q9)) (xW E a S mk rk rv ++ F) 0 0 := by
  refine gMi.of (cc := cX2_mostHeard) (maxL := 3) (ty := .int) (by decide) rfl (Nat.le_of_ble_eq_true rfl) ?_
  intro p e s m args below meth c A C ls hl hO
  have hl : lv_has ls 3 [(0, .ref (a 0)), (1, .int (nI h9)), (2, .int (nI q9))] := hl
  have iX2 : ∀ w ∈ u_ws RX2 TX2 9, w ∈ wsX2_mostHeard := by decide +kernel
  have w50 : Cond.fieldLink RX2 50 "ParrotLog" "stormOn" "Z" ∈ wsX2_mostHeard := by decide +kernel
  refine lv_aload_n C.1 C.2.1 dX2_mostHeard_0 rfl (lv_at hl 0 rfl) ?_
  refine gGet (v := .int (s_on S)) (ref := RX2) (Cn := RX2) (T := TX2) (N := 9) C iX2 hO 0 rfl rfl 7 (by decide) w50 (fun _ h9 => h9) rfl dX2_mostHeard_1 ?_
  refine lv_if_eq (tgt := 11) C.1 C.2.1 dX2_mostHeard_4 (by decide) (fun c_1 => ?_) (fun c_1 => ?_)
  · refine lv_iload_n C.1 C.2.1 dX2_mostHeard_11 rfl (lv_at hl 1 rfl) ?_
    refine lv_iload_n C.1 C.2.1 dX2_mostHeard_12 rfl (lv_at hl 2 rfl) ?_
    refine gMulN (x := h9) (y := q9) C.1 C.2.1 dX2_mostHeard_13 ?_
    exact gRi C hO rfl (by first | (unfold mhN; rw [if_pos c_1]; done) | (unfold mhN; rw [if_neg c_1]; rfl; done)) dX2_mostHeard_14 (Nat.le_of_ble_eq_true rfl) (Nat.le_of_ble_eq_true rfl)
  · refine lv_iconst (v := 0) C.1 C.2.1 dX2_mostHeard_7 (by decide) ?_
    refine lv_goto (tgt := 14) C.1 C.2.1 dX2_mostHeard_8 (by decide) ?_
    exact gRi C hO rfl (by first | (unfold mhN; rw [if_pos c_1]; done) | (unfold mhN; rw [if_neg c_1]; rfl; done)) dX2_mostHeard_14 (Nat.le_of_ble_eq_true rfl) (Nat.le_of_ble_eq_true rfl)

set_option maxHeartbeats 4000000 in
set_option maxRecDepth 100000 in
theorem c_X2_leastShipOffset (l : Launch) (E : gE) (a : Nat → Nat) (S : St) (mk rk rv : Nat → Int32) (F : va_W)  (hsh : s_sh S ≤ 6) : gMi l E yX2_leastShipOffset wsX2_leastShipOffset ({ frames := 1, cells := 0, slots := 0, locals := 13 }) (xW E a S mk rk rv ++ F) [.ref (a 0)] (lst (s_at S) (s_nx S) (s_sh S)) (xW E a S mk rk rv ++ F) 0 0 := by
  refine gMi.of (cc := cX2_leastShipOffset) (maxL := 3) (ty := .int) (by decide) rfl (Nat.le_of_ble_eq_true rfl) ?_
  intro p e s m args below meth c A C ls hl hO
  have hl : lv_has ls 3 [(0, .ref (a 0))] := hl
  have iX0 : ∀ w ∈ u_ws RX0 TX0 8, w ∈ wsX2_leastShipOffset := by decide +kernel
  have iX1 : ∀ w ∈ u_ws RX1 TX1 5, w ∈ wsX2_leastShipOffset := by decide +kernel
  have iX2 : ∀ w ∈ u_ws RX2 TX2 9, w ∈ wsX2_leastShipOffset := by decide +kernel
  have w10 : Cond.fieldLink RX2 10 "ParrotLog" "log" "LParrotLog$Log;" ∈ wsX2_leastShipOffset := by decide +kernel
  have w90 : Cond.fieldLink RX2 90 "ParrotLog" "shipCount" "I" ∈ wsX2_leastShipOffset := by decide +kernel
  have w22 : Cond.fieldLink RX2 22 "ParrotLog" "fleet" "[LParrotLog$Ship;" ∈ wsX2_leastShipOffset := by decide +kernel
  refine lv_aload_n C.1 C.2.1 dX2_leastShipOffset_0 rfl (lv_at hl 0 rfl) ?_
  refine gGet (v := .ref (a 1)) (ref := RX2) (Cn := RX2) (T := TX2) (N := 9) C iX2 hO 0 rfl rfl 0 (by decide) w10 (fun _ h9 => h9) rfl dX2_leastShipOffset_1 ?_
  refine gGetN (v := .int (s_nx S)) (ref := RX0) (Cn := RX0) (T := TX0) (N := 8) (host := RX2) C iX0 hO 1 rfl rfl 6 (by decide) (by decide +kernel) (fun _ h9 => h9) rfl dX2_leastShipOffset_4 ?_
  refine lv_istore_n (lv' := [(1, .int (s_nx S)), (0, .ref (a 0))]) C.1 C.2.1 dX2_leastShipOffset_7 rfl hl (by decide) rfl (fun ls hl => ?_)
  refine lv_iconst (v := 0) C.1 C.2.1 dX2_leastShipOffset_8 (by decide) ?_
  refine lv_istore_n (lv' := [(2, .int 0), (1, .int (s_nx S)), (0, .ref (a 0))]) C.1 C.2.1 dX2_leastShipOffset_9 rfl hl (by decide) rfl (fun ls hl => ?_)
  have lp24 : ∀ (f : Nat) (k : Nat), (s_sh S + 1 ≤ k + f) → (k ≤ s_sh S) → ∀ (H : Heap) (locs : List Loc), gO E A s (xW E a S mk rk rv ++ F) H locs → ∀ ls : Array Slot, lv_has ls 3 [(0, .ref (a 0)), (1, .int (lst (s_at S) (s_nx S) k)), (2, .int (nI k))] → W p l e ({ frames := 1, cells := 0, slots := 0, locals := 13 } : Room) s m args below meth c H locs 0 0 (MQ below (gQi E A (lst (s_at S) (s_nx S) (s_sh S)) (xW E a S mk rk rv ++ F)) args s 0 0 A) (F0 m 10 ls []) := by
    intro f
    induction f with
    | zero =>
      intro k hf hk9
      exact absurd hf (by omega)
    | succ f ih_lp24 =>
      intro k hf hk9 H locs hO ls hl
      refine lv_iload_n C.1 C.2.1 dX2_leastShipOffset_10 rfl (lv_at hl 2 rfl) ?_
      refine lv_aload_n C.1 C.2.1 dX2_leastShipOffset_11 rfl (lv_at hl 0 rfl) ?_
      refine gGet (v := .int (nI (s_sh S))) (ref := RX2) (Cn := RX2) (T := TX2) (N := 9) C iX2 hO 0 rfl rfl 8 (by decide) w90 (fun _ h9 => h9) rfl dX2_leastShipOffset_12 ?_
      refine gGeN (x := k) (y := (s_sh S)) (tgt := 38) C.1 C.2.1 (by omega) (by omega) dX2_leastShipOffset_15 (by decide) (fun c_1 => ?_) (fun c_1 => ?_)
      · refine lv_iload_n C.1 C.2.1 dX2_leastShipOffset_38 rfl (lv_at hl 1 rfl) ?_
        exact gRi C hO rfl (by rw [show k = s_sh S by omega]) dX2_leastShipOffset_39 (Nat.le_of_ble_eq_true rfl) (Nat.le_of_ble_eq_true rfl)
      · refine lv_iload_n C.1 C.2.1 dX2_leastShipOffset_18 rfl (lv_at hl 1 rfl) ?_
        refine lv_aload_n C.1 C.2.1 dX2_leastShipOffset_19 rfl (lv_at hl 0 rfl) ?_
        refine gGet (v := .ref (a 8)) (ref := RX2) (Cn := RX2) (T := TX2) (N := 9) C iX2 hO 0 rfl rfl 2 (by decide) w22 (fun _ h9 => h9) rfl dX2_leastShipOffset_20 ?_
        refine lv_iload_n C.1 C.2.1 dX2_leastShipOffset_23 rfl (lv_at hl 2 rfl) ?_
        refine gAald (v := a (11 + k)) (j := k) C hO 8 rfl (by omega) (by decide) (xFl_at (by omega)) dX2_leastShipOffset_24 ?_
        refine gGetN (v := .int ((s_at S) k)) (ref := RX1) (Cn := RX1) (T := TX1) (N := 5) (host := RX2) C iX1 hO (11 + k) (xw_ship (by omega)) rfl 2 (by decide) (by decide +kernel) (fun _ h9 => h9) rfl dX2_leastShipOffset_25 ?_
        refine va_mmin C.1 C.2.1 (by rw [C.2.2.1]; exact hl.1.symm) C.2.2.2.1 (C.2.2.2.2.1 (.methodLink RX2 225 Lib.Math.min.name) (by decide +kernel)) (C.2.2.2.2.1 (.static Lib.Math.min.name) (by decide +kernel)) (C.2.2.2.2.1 (.initialized "java/lang/Math") (by decide +kernel)) (C.2.2.2.2.1 (.code Lib.Math.min.name Lib.Math.min.code 2 (some .int)) (by decide +kernel)) (Nat.le_of_ble_eq_true rfl) (Nat.le_of_ble_eq_true rfl) (Nat.le_of_ble_eq_true rfl) (Nat.le_of_ble_eq_true rfl) dX2_leastShipOffset_28 ?_
        refine lv_istore_n (lv' := [(1, .int (if (s_at S) k < lst (s_at S) (s_nx S) k then (s_at S) k else lst (s_at S) (s_nx S) k)), (0, .ref (a 0)), (2, .int (nI k))]) C.1 C.2.1 dX2_leastShipOffset_31 rfl hl (by decide) rfl (fun ls hl => ?_)
        refine gInc (j := k) (k := 2) (lv' := [(2, .int (nI (k + 1))), (1, .int (if (s_at S) k < lst (s_at S) (s_nx S) k then (s_at S) k else lst (s_at S) (s_nx S) k)), (0, .ref (a 0))]) C.1 C.2.1 dX2_leastShipOffset_32 hl rfl (by decide) rfl (fun ls hl => ?_)
        refine lv_goto (tgt := 10) C.1 C.2.1 dX2_leastShipOffset_35 (by decide) ?_
        exact ih_lp24 (k + 1) (by omega) (by omega) _ _ hO _ (lv_sub hl [2, 1, 0] rfl)
  exact lp24 (s_sh S + 1) 0 (by omega) (Nat.zero_le _) _ _ hO _ (lv_sub hl [2, 1, 0] rfl)

set_option maxHeartbeats 4000000 in
set_option maxRecDepth 100000 in
theorem c_X2_markCompacted (l : Launch) (E : gE) (a : Nat → Nat) (S : St) (mk rk rv : Nat → Int32) (F : va_W)  (hn : s_n S ≤ 48) (hsh : s_sh S ≤ 6) : gMv l E yX2_markCompacted wsX2_markCompacted ({ frames := 2, cells := 0, slots := 0, locals := 48 }) (xW E a S mk rk rv ++ F) [.ref (a 0)] (xW E a S (mkU (s_cm S) mk (s_n S)) rk rv ++ F) 0 0 := by
  refine gMv.of (cc := cX2_markCompacted) (maxL := 1) (by decide) rfl (Nat.le_of_ble_eq_true rfl) ?_
  intro p e s m args below meth c A C ls hl hO
  have hl : lv_has ls 1 [(0, .ref (a 0))] := hl
  have iX2 : ∀ w ∈ u_ws RX2 TX2 9, w ∈ wsX2_markCompacted := by decide +kernel
  have w10 : Cond.fieldLink RX2 10 "ParrotLog" "log" "LParrotLog$Log;" ∈ wsX2_markCompacted := by decide +kernel
  refine lv_aload_n C.1 C.2.1 dX2_markCompacted_0 rfl (lv_at hl 0 rfl) ?_
  refine gGet (v := .ref (a 1)) (ref := RX2) (Cn := RX2) (T := TX2) (N := 9) C iX2 hO 0 rfl rfl 0 (by decide) w10 (fun _ h9 => h9) rfl dX2_markCompacted_1 ?_
  refine lv_aload_n C.1 C.2.1 dX2_markCompacted_4 rfl (lv_at hl 0 rfl) ?_
  refine gCall_i (As := []) (rest := [.ref (a 1)]) C hO (c_X2_leastShipOffset l E a S mk rk rv F (by omega)) (cwV 0 C.2.2.2.2.1 gX2_markCompacted_X2_leastShipOffset rfl rfl rfl (by decide +kernel) ⟨(Nat.le_of_ble_eq_true rfl), (Nat.le_of_ble_eq_true rfl)⟩) (va_recv C.2.2.2.2.2.2.2.1.1 hO.1 (ci := 2) (q0 := 0) rfl rfl) rfl hl.1 rfl (Nat.le_of_ble_eq_true rfl) dX2_markCompacted_5 ⟨(Nat.le_of_ble_eq_true rfl), (Nat.le_of_ble_eq_true rfl)⟩ (fun H locs hO => ?_)
  refine gCallN_v (As := [.int (lst (s_at S) (s_nx S) (s_sh S))]) (rest := []) C hO (c_X0_markCompacted l E a S mk rk rv F (lst (s_at S) (s_nx S) (s_sh S)) (by omega)) ⟨va_cnB (host := RX2) 1 C.2.2.2.2.1 gX2_markCompacted_X0_markCompacted_n223 rfl rfl rfl (C.2.2.2.2.2.2.2.1.2.1 (.methodLinkNest RX2 223 yX0_markCompacted RX2) (by decide +kernel)) (C.2.2.2.2.1 (.initialized RX0) (by decide +kernel)) (by decide +kernel) ⟨(Nat.le_of_ble_eq_true rfl), (Nat.le_of_ble_eq_true rfl)⟩, C.2.2.2.2.1 (.instanceMethod yX0_markCompacted) (by decide +kernel), C.2.2.2.2.1 (.selects RX0 yX0_markCompacted yX0_markCompacted) (by decide +kernel)⟩ (va_recv C.2.2.2.2.2.2.2.1.1 hO.1 (ci := 0) (q0 := 1) rfl rfl) rfl hl.1 rfl (Nat.le_of_ble_eq_true rfl) dX2_markCompacted_8 ⟨(Nat.le_of_ble_eq_true rfl), (Nat.le_of_ble_eq_true rfl)⟩ (fun H locs hO => ?_)
  have hO : gO E A s (xW E a S (mkU (gComp (s_off S) (s_key S) (s_val S) (s_n S) (lst (s_at S) (s_nx S) (s_sh S))) mk (s_n S)) rk rv ++ F) H locs := hO
  exact gRv C hO dX2_markCompacted_11 (Nat.le_of_ble_eq_true rfl) (Nat.le_of_ble_eq_true rfl)

set_option maxHeartbeats 4000000 in
set_option maxRecDepth 100000 in
theorem c_X2_dropMarked (l : Launch) (E : gE) (a : Nat → Nat) (S : St) (mk rk rv : Nat → Int32) (F : va_W)  (hn : s_n S ≤ 48) (hsh : s_sh S ≤ 6) : gMi l E yX2_dropMarked wsX2_dropMarked ({ frames := 2, cells := 0, slots := 0, locals := 45 }) (xW E a S mk rk rv ++ F) [.ref (a 0)] (nI (s_n S - cpN mk (s_n S))) (xW E a (S_drop S mk) mk rk rv ++ F) 0 0 := by
  refine gMi.of (cc := cX2_dropMarked) (maxL := 2) (ty := .int) (by decide) rfl (Nat.le_of_ble_eq_true rfl) ?_
  intro p e s m args below meth c A C ls hl hO
  have hl : lv_has ls 2 [(0, .ref (a 0))] := hl
  have iX1 : ∀ w ∈ u_ws RX1 TX1 5, w ∈ wsX2_dropMarked := by decide +kernel
  have iX2 : ∀ w ∈ u_ws RX2 TX2 9, w ∈ wsX2_dropMarked := by decide +kernel
  have w90 : Cond.fieldLink RX2 90 "ParrotLog" "shipCount" "I" ∈ wsX2_dropMarked := by decide +kernel
  have w10 : Cond.fieldLink RX2 10 "ParrotLog" "log" "LParrotLog$Log;" ∈ wsX2_dropMarked := by decide +kernel
  have w22 : Cond.fieldLink RX2 22 "ParrotLog" "fleet" "[LParrotLog$Ship;" ∈ wsX2_dropMarked := by decide +kernel
  have hO : gO E A s (xW E a (mkS (s_off S) (s_key S) (s_val S) (s_sto S) (s_n S) (s_nx S) (s_dr S) (s_hr S) (s_sc S) (s_on S) (s_said S) (s_sh S) (s_pc S) (s_at S) (s_hd S) (mkU (fun i => s_ms S i + nI (cm mk (pf (s_off S) (s_at S i) (s_n S)) (s_n S))) (s_ms S) (0)) (s_kn S)) mk rk rv ++ F) s.heap [] := by rw [mkU_0]; exact hO
  refine lv_iconst (v := 0) C.1 C.2.1 dX2_dropMarked_0 (by decide) ?_
  refine lv_istore_n (lv' := [(1, .int 0), (0, .ref (a 0))]) C.1 C.2.1 dX2_dropMarked_1 rfl hl (by decide) rfl (fun ls hl => ?_)
  have lp24 : ∀ (f : Nat) (k : Nat), (s_sh S + 1 ≤ k + f) → (k ≤ s_sh S) → ∀ (H : Heap) (locs : List Loc), gO E A s (xW E a (mkS (s_off S) (s_key S) (s_val S) (s_sto S) (s_n S) (s_nx S) (s_dr S) (s_hr S) (s_sc S) (s_on S) (s_said S) (s_sh S) (s_pc S) (s_at S) (s_hd S) (mkU (fun i => s_ms S i + nI (cm mk (pf (s_off S) (s_at S i) (s_n S)) (s_n S))) (s_ms S) (k)) (s_kn S)) mk rk rv ++ F) H locs → ∀ ls : Array Slot, lv_has ls 2 [(0, .ref (a 0)), (1, .int (nI k))] → W p l e ({ frames := 2, cells := 0, slots := 0, locals := 45 } : Room) s m args below meth c H locs 0 0 (MQ below (gQi E A (nI (s_n S - cpN mk (s_n S))) (xW E a (S_drop S mk) mk rk rv ++ F)) args s 0 0 A) (F0 m 2 ls []) := by
    intro f
    induction f with
    | zero =>
      intro k hf hk9
      exact absurd hf (by omega)
    | succ f ih_lp24 =>
      intro k hf hk9 H locs hO ls hl
      refine lv_iload_n C.1 C.2.1 dX2_dropMarked_2 rfl (lv_at hl 1 rfl) ?_
      refine lv_aload_n C.1 C.2.1 dX2_dropMarked_3 rfl (lv_at hl 0 rfl) ?_
      refine gGet (v := .int (nI (s_sh S))) (ref := RX2) (Cn := RX2) (T := TX2) (N := 9) C iX2 hO 0 rfl rfl 8 (by decide) w90 (fun _ h9 => h9) rfl dX2_dropMarked_4 ?_
      refine gGeN (x := k) (y := (s_sh S)) (tgt := 46) C.1 C.2.1 (by omega) (by omega) dX2_dropMarked_7 (by decide) (fun c_1 => ?_) (fun c_1 => ?_)
      · have hk8 : k = s_sh S := by omega
        rw [hk8] at hO
        have hl := lv_sub hl [0] rfl
        have hl : lv_has ls 2 [(0, .ref (a 0))] := hl
        refine lv_aload_n C.1 C.2.1 dX2_dropMarked_46 rfl (lv_at hl 0 rfl) ?_
        refine gGet (v := .ref (a 1)) (ref := RX2) (Cn := RX2) (T := TX2) (N := 9) C iX2 hO 0 rfl rfl 0 (by decide) w10 (fun _ h9 => h9) rfl dX2_dropMarked_47 ?_
        refine gCallN_i (As := []) (rest := []) C hO (c_X0_removeMarked l E a (mkS (s_off S) (s_key S) (s_val S) (s_sto S) (s_n S) (s_nx S) (s_dr S) (s_hr S) (s_sc S) (s_on S) (s_said S) (s_sh S) (s_pc S) (s_at S) (s_hd S) (mkU (fun i => s_ms S i + nI (cm mk (pf (s_off S) (s_at S i) (s_n S)) (s_n S))) (s_ms S) (s_sh S)) (s_kn S)) mk rk rv F (by omega)) ⟨va_cnB (host := RX2) 0 C.2.2.2.2.1 gX2_dropMarked_X0_removeMarked_n230 rfl rfl rfl (C.2.2.2.2.2.2.2.1.2.1 (.methodLinkNest RX2 230 yX0_removeMarked RX2) (by decide +kernel)) (C.2.2.2.2.1 (.initialized RX0) (by decide +kernel)) (by decide +kernel) ⟨(Nat.le_of_ble_eq_true rfl), (Nat.le_of_ble_eq_true rfl)⟩, C.2.2.2.2.1 (.instanceMethod yX0_removeMarked) (by decide +kernel), C.2.2.2.2.1 (.selects RX0 yX0_removeMarked yX0_removeMarked) (by decide +kernel)⟩ (va_recv C.2.2.2.2.2.2.2.1.1 hO.1 (ci := 0) (q0 := 1) rfl rfl) rfl hl.1 rfl (Nat.le_of_ble_eq_true rfl) dX2_dropMarked_50 ⟨(Nat.le_of_ble_eq_true rfl), (Nat.le_of_ble_eq_true rfl)⟩ (fun H locs hO => ?_)
        have hO : gO E A s (xW E a (S_rem (mkS (s_off S) (s_key S) (s_val S) (s_sto S) (s_n S) (s_nx S) (s_dr S) (s_hr S) (s_sc S) (s_on S) (s_said S) (s_sh S) (s_pc S) (s_at S) (s_hd S) (mkU (fun i => s_ms S i + nI (cm mk (pf (s_off S) (s_at S i) (s_n S)) (s_n S))) (s_ms S) (s_sh S)) (s_kn S)) mk) mk rk rv ++ F) H locs := hO
        exact gRi C hO rfl rfl dX2_dropMarked_53 (Nat.le_of_ble_eq_true rfl) (Nat.le_of_ble_eq_true rfl)
      · refine lv_aload_n C.1 C.2.1 dX2_dropMarked_10 rfl (lv_at hl 0 rfl) ?_
        refine gGet (v := .ref (a 8)) (ref := RX2) (Cn := RX2) (T := TX2) (N := 9) C iX2 hO 0 rfl rfl 2 (by decide) w22 (fun _ h9 => h9) rfl dX2_dropMarked_11 ?_
        refine lv_iload_n C.1 C.2.1 dX2_dropMarked_14 rfl (lv_at hl 1 rfl) ?_
        refine gAald (v := a (11 + k)) (j := k) C hO 8 rfl (by omega) (by decide) (xFl_at (by omega)) dX2_dropMarked_15 ?_
        refine lv_dup C.1 C.2.1 dX2_dropMarked_16 rfl ?_
        refine gGetN (v := .int ((mkU (fun i => s_ms S i + nI (cm mk (pf (s_off S) (s_at S i) (s_n S)) (s_n S))) (s_ms S) (k)) k)) (ref := RX1) (Cn := RX1) (T := TX1) (N := 5) (host := RX2) C iX1 hO (11 + k) (xw_ship (by omega)) rfl 4 (by decide) (by decide +kernel) (fun _ h9 => h9) rfl dX2_dropMarked_17 ?_
        refine lv_aload_n C.1 C.2.1 dX2_dropMarked_20 rfl (lv_at hl 0 rfl) ?_
        refine gGet (v := .ref (a 1)) (ref := RX2) (Cn := RX2) (T := TX2) (N := 9) C iX2 hO 0 rfl rfl 0 (by decide) w10 (fun _ h9 => h9) rfl dX2_dropMarked_21 ?_
        refine lv_aload_n C.1 C.2.1 dX2_dropMarked_24 rfl (lv_at hl 0 rfl) ?_
        refine gGet (v := .ref (a 8)) (ref := RX2) (Cn := RX2) (T := TX2) (N := 9) C iX2 hO 0 rfl rfl 2 (by decide) w22 (fun _ h9 => h9) rfl dX2_dropMarked_25 ?_
        refine lv_iload_n C.1 C.2.1 dX2_dropMarked_28 rfl (lv_at hl 1 rfl) ?_
        refine gAald (v := a (11 + k)) (j := k) C hO 8 rfl (by omega) (by decide) (xFl_at (by omega)) dX2_dropMarked_29 ?_
        refine gGetN (v := .int ((s_at S) k)) (ref := RX1) (Cn := RX1) (T := TX1) (N := 5) (host := RX2) C iX1 hO (11 + k) (xw_ship (by omega)) rfl 2 (by decide) (by decide +kernel) (fun _ h9 => h9) rfl dX2_dropMarked_30 ?_
        refine gCallN_i (As := [.int ((s_at S) k)]) (rest := [.int ((mkU (fun i => s_ms S i + nI (cm mk (pf (s_off S) (s_at S i) (s_n S)) (s_n S))) (s_ms S) (k)) k), .ref (a (11 + k))]) C hO (c_X0_countMarkedFrom l E a (mkS (s_off S) (s_key S) (s_val S) (s_sto S) (s_n S) (s_nx S) (s_dr S) (s_hr S) (s_sc S) (s_on S) (s_said S) (s_sh S) (s_pc S) (s_at S) (s_hd S) (mkU (fun i => s_ms S i + nI (cm mk (pf (s_off S) (s_at S i) (s_n S)) (s_n S))) (s_ms S) (k)) (s_kn S)) mk rk rv F ((s_at S) k) (by omega)) ⟨va_cnB (host := RX2) 1 C.2.2.2.2.1 gX2_dropMarked_X0_countMarkedFrom_n183 rfl rfl rfl (C.2.2.2.2.2.2.2.1.2.1 (.methodLinkNest RX2 183 yX0_countMarkedFrom RX2) (by decide +kernel)) (C.2.2.2.2.1 (.initialized RX0) (by decide +kernel)) (by decide +kernel) ⟨(Nat.le_of_ble_eq_true rfl), (Nat.le_of_ble_eq_true rfl)⟩, C.2.2.2.2.1 (.instanceMethod yX0_countMarkedFrom) (by decide +kernel), C.2.2.2.2.1 (.selects RX0 yX0_countMarkedFrom yX0_countMarkedFrom) (by decide +kernel)⟩ (va_recv C.2.2.2.2.2.2.2.1.1 hO.1 (ci := 0) (q0 := 1) rfl rfl) rfl hl.1 rfl (Nat.le_of_ble_eq_true rfl) dX2_dropMarked_33 ⟨(Nat.le_of_ble_eq_true rfl), (Nat.le_of_ble_eq_true rfl)⟩ (fun H locs hO => ?_)
        refine lv_iadd C.1 C.2.1 dX2_dropMarked_36 ?_
        refine gPutN (ws' := (xW E a (mkS (s_off S) (s_key S) (s_val S) (s_sto S) (s_n S) (s_nx S) (s_dr S) (s_hr S) (s_sc S) (s_on S) (s_said S) (s_sh S) (s_pc S) (s_at S) (s_hd S) (upd (mkU (fun i => s_ms S i + nI (cm mk (pf (s_off S) (s_at S i) (s_n S)) (s_n S))) (s_ms S) (k)) k (((mkU (fun i => s_ms S i + nI (cm mk (pf (s_off S) (s_at S i) (s_n S)) (s_n S))) (s_ms S) (k)) k) + (nI (cm mk (pf (s_off S) ((s_at S) k) (s_n S)) (s_n S))))) (s_kn S)) mk rk rv ++ F)) (ref := RX1) (Cn := RX1) (T := TX1) (N := 5) (host := RX2) C iX1 tyX1 tyX1_ok nmX1 hO (11 + k) (xw_ship (by omega)) rfl 4 (by decide) (by decide +kernel) (fun _ h9 => h9) rfl (by decide +kernel) rfl rfl (Nat.le_of_ble_eq_true rfl) (xs_ms (by omega) _) dX2_dropMarked_37 (fun H locs hO => ?_)
        have hO : gO E A s (xW E a (mkS (s_off S) (s_key S) (s_val S) (s_sto S) (s_n S) (s_nx S) (s_dr S) (s_hr S) (s_sc S) (s_on S) (s_said S) (s_sh S) (s_pc S) (s_at S) (s_hd S) (mkU (fun i => s_ms S i + nI (cm mk (pf (s_off S) (s_at S i) (s_n S)) (s_n S))) (s_ms S) (k + 1)) (s_kn S)) mk rk rv ++ F) H locs := by rw [mkU_sv (g := (fun i => s_ms S i + nI (cm mk (pf (s_off S) (s_at S i) (s_n S)) (s_n S)))) (mk := s_ms S) (n := k) (x := mkU (fun i => s_ms S i + nI (cm mk (pf (s_off S) (s_at S i) (s_n S)) (s_n S))) (s_ms S) k k + nI (cm mk (pf (s_off S) (s_at S k) (s_n S)) (s_n S))) (by rw [mkU_ge (Nat.lt_irrefl k)])]; exact hO
        refine gInc (j := k) (k := 1) (lv' := [(1, .int (nI (k + 1))), (0, .ref (a 0))]) C.1 C.2.1 dX2_dropMarked_40 hl rfl (by decide) rfl (fun ls hl => ?_)
        refine lv_goto (tgt := 2) C.1 C.2.1 dX2_dropMarked_43 (by decide) ?_
        refine W.widen (k := 0) (n := 0) (by omega) (by omega) ?_
        exact ih_lp24 (k + 1) (by omega) (by omega) _ _ hO _ (lv_sub hl [1, 0] rfl)
  exact lp24 (s_sh S + 1) 0 (by omega) (Nat.zero_le _) _ _ hO _ (lv_sub hl [1, 0] rfl)

set_option maxHeartbeats 4000000 in
set_option maxRecDepth 100000 in
theorem c_X2_speak (l : Launch) (E : gE) (a : Nat → Nat) (S : St) (mk rk rv : Nat → Int32) (F : va_W) (k v : Int32) (hn : s_n S ≤ 48) (hsh : s_sh S ≤ 6) (hsc : s_sc S ≤ 8) (hOn : ¬ s_on S = 0 → 1 ≤ s_sc S) : gMi l E yX2_speak wsX2_speak ({ frames := 3, cells := 0, slots := 0, locals := 66 }) (xW E a S mk rk rv ++ F) [.ref (a 0), .int k, .int v] (s_nx S) (xW E a (S_spk S k v) (mk_spk S mk) rk rv ++ F) 0 0 := by
  refine gMi.of (cc := cX2_speak) (maxL := 4) (ty := .int) (by decide) rfl (Nat.le_of_ble_eq_true rfl) ?_
  intro p e s m args below meth c A C ls hl hO
  have hl : lv_has ls 4 [(0, .ref (a 0)), (1, .int k), (2, .int v)] := hl
  have iX0 : ∀ w ∈ u_ws RX0 TX0 8, w ∈ wsX2_speak := by decide +kernel
  have iX2 : ∀ w ∈ u_ws RX2 TX2 9, w ∈ wsX2_speak := by decide +kernel
  have w10 : Cond.fieldLink RX2 10 "ParrotLog" "log" "LParrotLog$Log;" ∈ wsX2_speak := by decide +kernel
  have w50 : Cond.fieldLink RX2 50 "ParrotLog" "stormOn" "Z" ∈ wsX2_speak := by decide +kernel
  have w59 : Cond.fieldLink RX2 59 "ParrotLog" "stormCount" "I" ∈ wsX2_speak := by decide +kernel
  have w16 : Cond.fieldLink RX2 16 "ParrotLog" "saidInStorm" "[I" ∈ wsX2_speak := by decide +kernel
  refine lv_aload_n C.1 C.2.1 dX2_speak_0 rfl (lv_at hl 0 rfl) ?_
  refine gGet (v := .ref (a 1)) (ref := RX2) (Cn := RX2) (T := TX2) (N := 9) C iX2 hO 0 rfl rfl 0 (by decide) w10 (fun _ h9 => h9) rfl dX2_speak_1 ?_
  refine gGetN (v := .int (nI (s_n S))) (ref := RX0) (Cn := RX0) (T := TX0) (N := 8) (host := RX2) C iX0 hO 1 rfl rfl 5 (by decide) (by decide +kernel) (fun _ h9 => h9) rfl dX2_speak_4 ?_
  refine lv_bipush (v := nI 48) C.1 C.2.1 dX2_speak_7 (by decide) ?_
  have hcase : s_n S < 48 ∨ 48 ≤ s_n S := by omega
  have jn24 : ∀ (T : St) (mk1 : Nat → Int32), (S_room S = T) → (mk_spk S mk = mk1) → (s_n T < 48) → (s_on T = s_on S) → (s_sc T = s_sc S) → (s_nx T = s_nx S) → ∀ (H : Heap) (locs : List Loc), gO E A s (xW E a T mk1 rk rv ++ F) H locs → ∀ ls : Array Slot, lv_has ls 4 [(0, .ref (a 0)), (1, .int k), (2, .int v)] → W p l e ({ frames := 3, cells := 0, slots := 0, locals := 66 } : Room) s m args below meth c H locs 0 0 (MQ below (gQi E A (s_nx S) (xW E a (S_spk S k v) (mk_spk S mk) rk rv ++ F)) args s 0 0 A) (F0 m 24 ls []) := by
    intro T mk1 hT24 hmk hTn hTo hTs hTx H locs hO ls hl
    refine lv_iconst (v := (-1)) C.1 C.2.1 dX2_speak_24 (by decide) ?_
    refine lv_istore_n (lv' := [(3, .int (-1)), (0, .ref (a 0)), (1, .int k), (2, .int v)]) C.1 C.2.1 dX2_speak_25 rfl hl (by decide) rfl (fun ls hl => ?_)
    refine lv_aload_n C.1 C.2.1 dX2_speak_26 rfl (lv_at hl 1 rfl) ?_
    refine gGet (v := .int (s_on T)) (ref := RX2) (Cn := RX2) (T := TX2) (N := 9) C iX2 hO 0 rfl rfl 7 (by decide) w50 (fun _ h9 => h9) rfl dX2_speak_27 ?_
    refine lv_if_eq (tgt := 50) C.1 C.2.1 dX2_speak_30 (by decide) (fun c_1 => ?_) (fun c_1 => ?_)
    · have hzo : s_on T = 0 := c_1
      refine lv_aload_n C.1 C.2.1 dX2_speak_50 rfl (lv_at hl 1 rfl) ?_
      refine gGet (v := .ref (a 1)) (ref := RX2) (Cn := RX2) (T := TX2) (N := 9) C iX2 hO 0 rfl rfl 0 (by decide) w10 (fun _ h9 => h9) rfl dX2_speak_51 ?_
      refine lv_iload_n C.1 C.2.1 dX2_speak_54 rfl (lv_at hl 2 rfl) ?_
      refine lv_iload_n C.1 C.2.1 dX2_speak_55 rfl (lv_at hl 3 rfl) ?_
      refine lv_iload_n C.1 C.2.1 dX2_speak_56 rfl (lv_at hl 0 rfl) ?_
      refine gCallN_i (As := [.int k, .int v, .int (-1)]) (rest := []) C hO (c_X0_append l E a T mk1 rk rv F k v (-1) (by omega)) ⟨va_cnB (host := RX2) 3 C.2.2.2.2.1 gX2_speak_X0_append_n216 rfl rfl rfl (C.2.2.2.2.2.2.2.1.2.1 (.methodLinkNest RX2 216 yX0_append RX2) (by decide +kernel)) (C.2.2.2.2.1 (.initialized RX0) (by decide +kernel)) (by decide +kernel) ⟨(Nat.le_of_ble_eq_true rfl), (Nat.le_of_ble_eq_true rfl)⟩, C.2.2.2.2.1 (.instanceMethod yX0_append) (by decide +kernel), C.2.2.2.2.1 (.selects RX0 yX0_append yX0_append) (by decide +kernel)⟩ (va_recv C.2.2.2.2.2.2.2.1.1 hO.1 (ci := 0) (q0 := 1) rfl rfl) rfl hl.1 rfl (Nat.le_of_ble_eq_true rfl) dX2_speak_57 ⟨(Nat.le_of_ble_eq_true rfl), (Nat.le_of_ble_eq_true rfl)⟩ (fun H locs hO => ?_)
      have hO : gO E A s (xW E a (S_app T k v (-1)) mk1 rk rv ++ F) H locs := hO
      exact gRi C (by first | (rw [S_spk_0 hT24 hzo hTo, hmk]; exact hO) | (rw [S_spk_1 hT24 hzo hTo hTs, hmk]; exact hO)) rfl hTx dX2_speak_60 (Nat.le_of_ble_eq_true rfl) (Nat.le_of_ble_eq_true rfl)
    · have hzo : ¬ s_on T = 0 := c_1
      have h1s : 1 ≤ s_sc T := by rw [hTs]; exact hOn (by rw [← hTo]; exact hzo)
      refine lv_aload_n C.1 C.2.1 dX2_speak_33 rfl (lv_at hl 1 rfl) ?_
      refine gGet (v := .int (nI (s_sc T))) (ref := RX2) (Cn := RX2) (T := TX2) (N := 9) C iX2 hO 0 rfl rfl 6 (by decide) w59 (fun _ h9 => h9) rfl dX2_speak_34 ?_
      refine lv_iconst (v := 1) C.1 C.2.1 dX2_speak_37 (by decide) ?_
      refine gSubN (x := (s_sc T)) (y := 1) C.1 C.2.1 h1s dX2_speak_38 ?_
      refine lv_istore_n (lv' := [(3, .int (nI ((s_sc T) - 1))), (0, .ref (a 0)), (1, .int k), (2, .int v)]) C.1 C.2.1 dX2_speak_39 rfl hl (by decide) rfl (fun ls hl => ?_)
      refine lv_aload_n C.1 C.2.1 dX2_speak_40 rfl (lv_at hl 1 rfl) ?_
      refine gGet (v := .ref (a 7)) (ref := RX2) (Cn := RX2) (T := TX2) (N := 9) C iX2 hO 0 rfl rfl 1 (by decide) w16 (fun _ h9 => h9) rfl dX2_speak_41 ?_
      refine lv_iload_n C.1 C.2.1 dX2_speak_44 rfl (lv_at hl 0 rfl) ?_
      refine lv_dup2_11 C.1 C.2.1 dX2_speak_45 rfl rfl ?_
      refine gIald (v := (s_said T) ((s_sc T) - 1)) (j := ((s_sc T) - 1)) C hO 7 rfl (by omega) (by decide) rfl dX2_speak_46 ?_
      refine lv_iconst (v := 1) C.1 C.2.1 dX2_speak_47 (by decide) ?_
      refine lv_iadd C.1 C.2.1 dX2_speak_48 ?_
      refine gIast (j := ((s_sc T) - 1)) (ws' := (xW E a (mkS (s_off T) (s_key T) (s_val T) (s_sto T) (s_n T) (s_nx T) (s_dr T) (s_hr T) (s_sc T) (s_on T) (upd (s_said T) ((s_sc T) - 1) (((s_said T) ((s_sc T) - 1)) + 1)) (s_sh T) (s_pc T) (s_at T) (s_hd T) (s_ms T) (s_kn T)) mk1 rk rv ++ F)) C hO 7 rfl (by omega) (by decide) rfl dX2_speak_49 (fun H locs hO => ?_)
      refine lv_aload_n C.1 C.2.1 dX2_speak_50 rfl (lv_at hl 1 rfl) ?_
      refine gGet (v := .ref (a 1)) (ref := RX2) (Cn := RX2) (T := TX2) (N := 9) C iX2 hO 0 rfl rfl 0 (by decide) w10 (fun _ h9 => h9) rfl dX2_speak_51 ?_
      refine lv_iload_n C.1 C.2.1 dX2_speak_54 rfl (lv_at hl 2 rfl) ?_
      refine lv_iload_n C.1 C.2.1 dX2_speak_55 rfl (lv_at hl 3 rfl) ?_
      refine lv_iload_n C.1 C.2.1 dX2_speak_56 rfl (lv_at hl 0 rfl) ?_
      refine gCallN_i (As := [.int k, .int v, .int (nI ((s_sc T) - 1))]) (rest := []) C hO (c_X0_append l E a (mkS (s_off T) (s_key T) (s_val T) (s_sto T) (s_n T) (s_nx T) (s_dr T) (s_hr T) (s_sc T) (s_on T) (upd (s_said T) ((s_sc T) - 1) (((s_said T) ((s_sc T) - 1)) + 1)) (s_sh T) (s_pc T) (s_at T) (s_hd T) (s_ms T) (s_kn T)) mk1 rk rv F k v (nI ((s_sc T) - 1)) (by omega)) ⟨va_cnB (host := RX2) 3 C.2.2.2.2.1 gX2_speak_X0_append_n216 rfl rfl rfl (C.2.2.2.2.2.2.2.1.2.1 (.methodLinkNest RX2 216 yX0_append RX2) (by decide +kernel)) (C.2.2.2.2.1 (.initialized RX0) (by decide +kernel)) (by decide +kernel) ⟨(Nat.le_of_ble_eq_true rfl), (Nat.le_of_ble_eq_true rfl)⟩, C.2.2.2.2.1 (.instanceMethod yX0_append) (by decide +kernel), C.2.2.2.2.1 (.selects RX0 yX0_append yX0_append) (by decide +kernel)⟩ (va_recv C.2.2.2.2.2.2.2.1.1 hO.1 (ci := 0) (q0 := 1) rfl rfl) rfl hl.1 rfl (Nat.le_of_ble_eq_true rfl) dX2_speak_57 ⟨(Nat.le_of_ble_eq_true rfl), (Nat.le_of_ble_eq_true rfl)⟩ (fun H locs hO => ?_)
      have hO : gO E A s (xW E a (S_app (mkS (s_off T) (s_key T) (s_val T) (s_sto T) (s_n T) (s_nx T) (s_dr T) (s_hr T) (s_sc T) (s_on T) (upd (s_said T) ((s_sc T) - 1) (((s_said T) ((s_sc T) - 1)) + 1)) (s_sh T) (s_pc T) (s_at T) (s_hd T) (s_ms T) (s_kn T)) k v (nI ((s_sc T) - 1))) mk1 rk rv ++ F) H locs := hO
      exact gRi C (by first | (rw [S_spk_0 hT24 hzo hTo, hmk]; exact hO) | (rw [S_spk_1 hT24 hzo hTo hTs, hmk]; exact hO)) rfl hTx dX2_speak_60 (Nat.le_of_ble_eq_true rfl) (Nat.le_of_ble_eq_true rfl)
  refine gLtN (x := (s_n S)) (y := 48) (tgt := 24) C.1 C.2.1 (by omega) (by omega) dX2_speak_9 (by decide) (fun c_2 => ?_) (fun c_2 => ?_)
  · have hz : s_n S < 48 := c_2
    exact jn24 S mk (if_pos hz) (if_pos hz) hz rfl rfl rfl _ _ hO _ (lv_sub hl [0, 1, 2] rfl)
  · have hz : ¬ s_n S < 48 := by omega
    have hT0 : S_room S = S_drop S (mkU gFirst mk (s_n S)) := (if_neg hz).trans (S_drop_congr (fun i hi => (mkU_at hi).symm))
    refine lv_aload_n C.1 C.2.1 dX2_speak_12 rfl (lv_at hl 0 rfl) ?_
    refine gGet (v := .ref (a 1)) (ref := RX2) (Cn := RX2) (T := TX2) (N := 9) C iX2 hO 0 rfl rfl 0 (by decide) w10 (fun _ h9 => h9) rfl dX2_speak_13 ?_
    refine gCallN_v (As := []) (rest := []) C hO (c_X0_markFirst l E a S mk rk rv F (by omega)) ⟨va_cnB (host := RX2) 0 C.2.2.2.2.1 gX2_speak_X0_markFirst_n213 rfl rfl rfl (C.2.2.2.2.2.2.2.1.2.1 (.methodLinkNest RX2 213 yX0_markFirst RX2) (by decide +kernel)) (C.2.2.2.2.1 (.initialized RX0) (by decide +kernel)) (by decide +kernel) ⟨(Nat.le_of_ble_eq_true rfl), (Nat.le_of_ble_eq_true rfl)⟩, C.2.2.2.2.1 (.instanceMethod yX0_markFirst) (by decide +kernel), C.2.2.2.2.1 (.selects RX0 yX0_markFirst yX0_markFirst) (by decide +kernel)⟩ (va_recv C.2.2.2.2.2.2.2.1.1 hO.1 (ci := 0) (q0 := 1) rfl rfl) rfl hl.1 rfl (Nat.le_of_ble_eq_true rfl) dX2_speak_16 ⟨(Nat.le_of_ble_eq_true rfl), (Nat.le_of_ble_eq_true rfl)⟩ (fun H locs hO => ?_)
    have hO : gO E A s (xW E a S (mkU gFirst mk (s_n S)) rk rv ++ F) H locs := hO
    refine lv_aload_n C.1 C.2.1 dX2_speak_19 rfl (lv_at hl 0 rfl) ?_
    refine gCall_i (As := []) (rest := []) C hO (c_X2_dropMarked l E a S (mkU gFirst mk (s_n S)) rk rv F (by omega) (by omega)) (cwV 0 C.2.2.2.2.1 gX2_speak_X2_dropMarked rfl rfl rfl (by decide +kernel) ⟨(Nat.le_of_ble_eq_true rfl), (Nat.le_of_ble_eq_true rfl)⟩) (va_recv C.2.2.2.2.2.2.2.1.1 hO.1 (ci := 2) (q0 := 0) rfl rfl) rfl hl.1 rfl (Nat.le_of_ble_eq_true rfl) dX2_speak_20 ⟨(Nat.le_of_ble_eq_true rfl), (Nat.le_of_ble_eq_true rfl)⟩ (fun H locs hO => ?_)
    have hO : gO E A s (xW E a (S_drop S (mkU gFirst mk (s_n S))) (mkU gFirst mk (s_n S)) rk rv ++ F) H locs := hO
    refine lv_pop C.1 C.2.1 dX2_speak_23 rfl ?_
    refine W.widen (k := 0) (n := 0) (by omega) (by omega) ?_
    exact jn24 (S_drop S (mkU gFirst mk (s_n S))) (mkU gFirst mk (s_n S)) hT0 (if_neg hz) (by rw [← hT0]; exact S_room_n hn) rfl rfl rfl _ _ hO _ (lv_sub hl [0, 1, 2] rfl)
end
section
set_option maxHeartbeats 4000000 in
set_option maxRecDepth 100000 in
theorem c_X2_hearNext (l : Launch) (E : gE) (a : Nat → Nat) (S : St) (mk rk rv : Nat → Int32) (F : va_W) (i q9 : Nat) (hn : s_n S ≤ 48) (hi : i < 6) (hok9 : s_ok S) (hq9 : q9 < 1000) : gMi l E yX2_hearNext wsX2_hearNext ({ frames := 1, cells := 0, slots := 0, locals := 23 }) (xW E a S mk rk rv ++ F) [.ref (a 0), .ref (a (11 + i)), .int (nI q9)] (nI (s_to S i q9 - pf (s_off S) (s_at S i) (s_n S))) (xW E a (S_hear S i (s_to S i q9 - pf (s_off S) (s_at S i) (s_n S))) mk rk rv ++ F) 0 0 := by
  refine gMi.of (cc := cX2_hearNext) (maxL := 6) (ty := .int) (by decide) rfl (Nat.le_of_ble_eq_true rfl) ?_
  intro p e s m args below meth c A C ls hl hO
  have hl : lv_has ls 6 [(0, .ref (a 0)), (1, .ref (a (11 + i))), (2, .int (nI q9))] := hl
  have iX0 : ∀ w ∈ u_ws RX0 TX0 8, w ∈ wsX2_hearNext := by decide +kernel
  have iX1 : ∀ w ∈ u_ws RX1 TX1 5, w ∈ wsX2_hearNext := by decide +kernel
  have iX2 : ∀ w ∈ u_ws RX2 TX2 9, w ∈ wsX2_hearNext := by decide +kernel
  have w10 : Cond.fieldLink RX2 10 "ParrotLog" "log" "LParrotLog$Log;" ∈ wsX2_hearNext := by decide +kernel
  refine lv_aload_n C.1 C.2.1 dX2_hearNext_0 rfl (lv_at hl 0 rfl) ?_
  refine gGet (v := .ref (a 1)) (ref := RX2) (Cn := RX2) (T := TX2) (N := 9) C iX2 hO 0 rfl rfl 0 (by decide) w10 (fun _ h9 => h9) rfl dX2_hearNext_1 ?_
  refine lv_aload_n C.1 C.2.1 dX2_hearNext_4 rfl (lv_at hl 1 rfl) ?_
  refine gGetN (v := .int ((s_at S) i)) (ref := RX1) (Cn := RX1) (T := TX1) (N := 5) (host := RX2) C iX1 hO (11 + i) (xw_ship hi) rfl 2 (by decide) (by decide +kernel) (fun _ h9 => h9) rfl dX2_hearNext_5 ?_
  refine gCallN_i (As := [.int ((s_at S) i)]) (rest := []) C hO (c_X0_positionFrom l E a S mk rk rv F ((s_at S) i) (by omega)) ⟨va_cnB (host := RX2) 1 C.2.2.2.2.1 gX2_hearNext_X0_positionFrom_n233 rfl rfl rfl (C.2.2.2.2.2.2.2.1.2.1 (.methodLinkNest RX2 233 yX0_positionFrom RX2) (by decide +kernel)) (C.2.2.2.2.1 (.initialized RX0) (by decide +kernel)) (by decide +kernel) ⟨(Nat.le_of_ble_eq_true rfl), (Nat.le_of_ble_eq_true rfl)⟩, C.2.2.2.2.1 (.instanceMethod yX0_positionFrom) (by decide +kernel), C.2.2.2.2.1 (.selects RX0 yX0_positionFrom yX0_positionFrom) (by decide +kernel)⟩ (va_recv C.2.2.2.2.2.2.2.1.1 hO.1 (ci := 0) (q0 := 1) rfl rfl) rfl hl.1 rfl (Nat.le_of_ble_eq_true rfl) dX2_hearNext_8 ⟨(Nat.le_of_ble_eq_true rfl), (Nat.le_of_ble_eq_true rfl)⟩ (fun H locs hO => ?_)
  refine lv_istore_n (lv' := [(3, .int (nI (pf (s_off S) ((s_at S) i) (s_n S)))), (0, .ref (a 0)), (1, .ref (a (11 + i))), (2, .int (nI q9))]) C.1 C.2.1 dX2_hearNext_11 rfl hl (by decide) rfl (fun ls hl => ?_)
  have hpf9 := pf_le (s_off S) (s_at S i) (s_n S)
  have htl9 := s_to_le S i q9
  have htg9 := s_to_ge S i q9
  refine lv_aload_n C.1 C.2.1 dX2_hearNext_12 rfl (lv_at hl 1 rfl) ?_
  refine gGet (v := .ref (a 1)) (ref := RX2) (Cn := RX2) (T := TX2) (N := 9) C iX2 hO 0 rfl rfl 0 (by decide) w10 (fun _ h9 => h9) rfl dX2_hearNext_13 ?_
  refine gGetN (v := .int (nI (s_n S))) (ref := RX0) (Cn := RX0) (T := TX0) (N := 8) (host := RX2) C iX0 hO 1 rfl rfl 5 (by decide) (by decide +kernel) (fun _ h9 => h9) rfl dX2_hearNext_16 ?_
  refine lv_iload_n C.1 C.2.1 dX2_hearNext_19 rfl (lv_at hl 0 rfl) ?_
  refine lv_iload_n C.1 C.2.1 dX2_hearNext_20 rfl (lv_at hl 3 rfl) ?_
  refine gAddN (x := (pf (s_off S) ((s_at S) i) (s_n S))) (y := q9) C.1 C.2.1 dX2_hearNext_21 ?_
  refine va_mmin C.1 C.2.1 (by rw [C.2.2.1]; exact hl.1.symm) C.2.2.2.1 (C.2.2.2.2.1 (.methodLink RX2 225 Lib.Math.min.name) (by decide +kernel)) (C.2.2.2.2.1 (.static Lib.Math.min.name) (by decide +kernel)) (C.2.2.2.2.1 (.initialized "java/lang/Math") (by decide +kernel)) (C.2.2.2.2.1 (.code Lib.Math.min.name Lib.Math.min.code 2 (some .int)) (by decide +kernel)) (Nat.le_of_ble_eq_true rfl) (Nat.le_of_ble_eq_true rfl) (Nat.le_of_ble_eq_true rfl) (Nat.le_of_ble_eq_true rfl) dX2_hearNext_22 ?_
  refine lv_eqi (y := nI (s_to S i q9)) (nI_min (by omega) (by omega)) ?_
  refine lv_istore (lv' := [(4, .int (nI (s_to S i q9))), (3, .int (nI (pf (s_off S) ((s_at S) i) (s_n S)))), (0, .ref (a 0)), (1, .ref (a (11 + i))), (2, .int (nI q9))]) C.1 C.2.1 dX2_hearNext_25 hl (by decide) rfl (fun ls hl => ?_)
  refine lv_iload_n C.1 C.2.1 dX2_hearNext_27 rfl (lv_at hl 1 rfl) ?_
  have hO : gO E A s (xW E a (mkS (s_off S) (s_key S) (s_val S) (s_sto S) (s_n S) (s_nx S) (s_dr S) (s_hr S) (s_sc S) (s_on S) (s_said S) (s_sh S) (s_pc S) (if 0 = 0 then s_at S else upd (s_at S) i (s_off S (pf (s_off S) (s_at S i) (s_n S) + 0 - 1) + 1)) (upd (s_hd S) i (s_hd S i + nI 0)) (s_ms S) (va_up (s_kn S) i (hk (s_key S) (s_val S) (pf (s_off S) (s_at S i) (s_n S)) (s_kn S i) 0))) mk rk rv ++ F) H locs := by rw [show hk (s_key S) (s_val S) (pf (s_off S) (s_at S i) (s_n S)) (s_kn S i) 0 = s_kn S i from rfl, vup_self, nI_0, Int32.add_zero, upd_self]; exact hO
  refine lv_istore (lv' := [(5, .int (nI (pf (s_off S) ((s_at S) i) (s_n S)))), (4, .int (nI (s_to S i q9))), (3, .int (nI (pf (s_off S) ((s_at S) i) (s_n S)))), (0, .ref (a 0)), (1, .ref (a (11 + i))), (2, .int (nI q9))]) C.1 C.2.1 dX2_hearNext_28 hl (by decide) rfl (fun ls hl => ?_)
  have lp24 : ∀ (f : Nat) (d9 : Nat), (s_to S i q9 + 1 ≤ pf (s_off S) (s_at S i) (s_n S) + d9 + f) → (pf (s_off S) (s_at S i) (s_n S) + d9 ≤ s_to S i q9) → ∀ (H : Heap) (locs : List Loc), gO E A s (xW E a (mkS (s_off S) (s_key S) (s_val S) (s_sto S) (s_n S) (s_nx S) (s_dr S) (s_hr S) (s_sc S) (s_on S) (s_said S) (s_sh S) (s_pc S) (if d9 = 0 then s_at S else upd (s_at S) i (s_off S (pf (s_off S) (s_at S i) (s_n S) + d9 - 1) + 1)) (upd (s_hd S) i (s_hd S i + nI d9)) (s_ms S) (va_up (s_kn S) i (hk (s_key S) (s_val S) (pf (s_off S) (s_at S i) (s_n S)) (s_kn S i) d9))) mk rk rv ++ F) H locs → ∀ ls : Array Slot, lv_has ls 6 [(0, .ref (a 0)), (1, .ref (a (11 + i))), (3, .int (nI (pf (s_off S) (s_at S i) (s_n S)))), (4, .int (nI (s_to S i q9))), (5, .int (nI (pf (s_off S) (s_at S i) (s_n S) + d9)))] → W p l e ({ frames := 1, cells := 0, slots := 0, locals := 23 } : Room) s m args below meth c H locs 0 0 (MQ below (gQi E A (nI (s_to S i q9 - pf (s_off S) (s_at S i) (s_n S))) (xW E a (S_hear S i (s_to S i q9 - pf (s_off S) (s_at S i) (s_n S))) mk rk rv ++ F)) args s 0 0 A) (F0 m 30 ls []) := by
    intro f
    induction f with
    | zero =>
      intro d9 hf hd9
      exact absurd hf (by omega)
    | succ f ih_lp24 =>
      intro d9 hf hd9 H locs hO ls hl
      refine lv_iload C.1 C.2.1 dX2_hearNext_30 (lv_at hl 4 rfl) ?_
      refine lv_iload C.1 C.2.1 dX2_hearNext_32 (lv_at hl 3 rfl) ?_
      refine gGeN (x := (pf (s_off S) (s_at S i) (s_n S) + d9)) (y := (s_to S i q9)) (tgt := 77) C.1 C.2.1 (by omega) (by omega) dX2_hearNext_34 (by decide) (fun c_1 => ?_) (fun c_1 => ?_)
      · have hdd9 : d9 = s_to S i q9 - (pf (s_off S) (s_at S i) (s_n S)) := by omega
        refine lv_iload C.1 C.2.1 dX2_hearNext_77 (lv_at hl 3 rfl) ?_
        refine lv_iload_n C.1 C.2.1 dX2_hearNext_79 rfl (lv_at hl 2 rfl) ?_
        refine gSubN (x := (s_to S i q9)) (y := (pf (s_off S) (s_at S i) (s_n S))) C.1 C.2.1 htg9 dX2_hearNext_80 ?_
        exact gRi C (by rw [← hdd9]; exact hO) rfl rfl dX2_hearNext_81 (Nat.le_of_ble_eq_true rfl) (Nat.le_of_ble_eq_true rfl)
      · have hk24 := hok9 (pf (s_off S) (s_at S i) (s_n S) + d9) (by omega)
        refine lv_aload_n C.1 C.2.1 dX2_hearNext_37 rfl (lv_at hl 1 rfl) ?_
        refine lv_aload_n C.1 C.2.1 dX2_hearNext_38 rfl (lv_at hl 0 rfl) ?_
        refine gGet (v := .ref (a 1)) (ref := RX2) (Cn := RX2) (T := TX2) (N := 9) C iX2 hO 0 rfl rfl 0 (by decide) w10 (fun _ h9 => h9) rfl dX2_hearNext_39 ?_
        refine gGetN (v := .ref (a 2)) (ref := RX0) (Cn := RX0) (T := TX0) (N := 8) (host := RX2) C iX0 hO 1 rfl rfl 0 (by decide) (by decide +kernel) (fun _ h9 => h9) rfl dX2_hearNext_42 ?_
        refine lv_iload C.1 C.2.1 dX2_hearNext_45 (lv_at hl 4 rfl) ?_
        refine gIald (v := (s_off S) (pf (s_off S) (s_at S i) (s_n S) + d9)) (j := (pf (s_off S) (s_at S i) (s_n S) + d9)) C hO 2 rfl (by omega) (by decide) rfl dX2_hearNext_47 ?_
        refine lv_aload_n C.1 C.2.1 dX2_hearNext_48 rfl (lv_at hl 0 rfl) ?_
        refine gGet (v := .ref (a 1)) (ref := RX2) (Cn := RX2) (T := TX2) (N := 9) C iX2 hO 0 rfl rfl 0 (by decide) w10 (fun _ h9 => h9) rfl dX2_hearNext_49 ?_
        refine gGetN (v := .ref (a 3)) (ref := RX0) (Cn := RX0) (T := TX0) (N := 8) (host := RX2) C iX0 hO 1 rfl rfl 1 (by decide) (by decide +kernel) (fun _ h9 => h9) rfl dX2_hearNext_52 ?_
        refine lv_iload C.1 C.2.1 dX2_hearNext_55 (lv_at hl 4 rfl) ?_
        refine gIald (v := (s_key S) (pf (s_off S) (s_at S i) (s_n S) + d9)) (j := (pf (s_off S) (s_at S i) (s_n S) + d9)) C hO 3 rfl (by omega) (by decide) rfl dX2_hearNext_57 ?_
        refine lv_eqi (y := nI ((s_key S (pf (s_off S) (s_at S i) (s_n S) + d9)).toNatClampNeg)) hk24.2 ?_
        refine lv_aload_n C.1 C.2.1 dX2_hearNext_58 rfl (lv_at hl 0 rfl) ?_
        refine gGet (v := .ref (a 1)) (ref := RX2) (Cn := RX2) (T := TX2) (N := 9) C iX2 hO 0 rfl rfl 0 (by decide) w10 (fun _ h9 => h9) rfl dX2_hearNext_59 ?_
        refine gGetN (v := .ref (a 4)) (ref := RX0) (Cn := RX0) (T := TX0) (N := 8) (host := RX2) C iX0 hO 1 rfl rfl 2 (by decide) (by decide +kernel) (fun _ h9 => h9) rfl dX2_hearNext_62 ?_
        refine lv_iload C.1 C.2.1 dX2_hearNext_65 (lv_at hl 4 rfl) ?_
        refine gIald (v := (s_val S) (pf (s_off S) (s_at S i) (s_n S) + d9)) (j := (pf (s_off S) (s_at S i) (s_n S) + d9)) C hO 4 rfl (by omega) (by decide) rfl dX2_hearNext_67 ?_
        refine gCallN_v (As := [.int ((s_off S) (pf (s_off S) (s_at S i) (s_n S) + d9)), .int (nI ((s_key S (pf (s_off S) (s_at S i) (s_n S) + d9)).toNatClampNeg)), .int ((s_val S) (pf (s_off S) (s_at S i) (s_n S) + d9))]) (rest := []) C hO (c_X1_hear l E a (mkS (s_off S) (s_key S) (s_val S) (s_sto S) (s_n S) (s_nx S) (s_dr S) (s_hr S) (s_sc S) (s_on S) (s_said S) (s_sh S) (s_pc S) (if d9 = 0 then s_at S else upd (s_at S) i (s_off S (pf (s_off S) (s_at S i) (s_n S) + d9 - 1) + 1)) (upd (s_hd S) i (s_hd S i + nI d9)) (s_ms S) (va_up (s_kn S) i (hk (s_key S) (s_val S) (pf (s_off S) (s_at S i) (s_n S)) (s_kn S i) d9))) mk rk rv F i ((s_off S) (pf (s_off S) (s_at S i) (s_n S) + d9)) ((s_key S (pf (s_off S) (s_at S i) (s_n S) + d9)).toNatClampNeg) ((s_val S) (pf (s_off S) (s_at S i) (s_n S) + d9)) hi (by omega)) ⟨va_cnB (host := RX2) 3 C.2.2.2.2.1 gX2_hearNext_X1_hear_n236 rfl rfl rfl (C.2.2.2.2.2.2.2.1.2.1 (.methodLinkNest RX2 236 yX1_hear RX2) (by decide +kernel)) (C.2.2.2.2.1 (.initialized RX1) (by decide +kernel)) (by decide +kernel) ⟨(Nat.le_of_ble_eq_true rfl), (Nat.le_of_ble_eq_true rfl)⟩, C.2.2.2.2.1 (.instanceMethod yX1_hear) (by decide +kernel), C.2.2.2.2.1 (.selects RX1 yX1_hear yX1_hear) (by decide +kernel)⟩ (va_recv C.2.2.2.2.2.2.2.1.1 hO.1 (ci := 1) (q0 := 11 + i) rfl (xw_ship hi)) rfl hl.1 rfl (Nat.le_of_ble_eq_true rfl) dX2_hearNext_68 ⟨(Nat.le_of_ble_eq_true rfl), (Nat.le_of_ble_eq_true rfl)⟩ (fun H locs hO => ?_)
        have hO : gO E A s (xW E a (mkS (s_off S) (s_key S) (s_val S) (s_sto S) (s_n S) (s_nx S) (s_dr S) (s_hr S) (s_sc S) (s_on S) (s_said S) (s_sh S) (s_pc S) (upd (if d9 = 0 then s_at S else upd (s_at S) i (s_off S (pf (s_off S) (s_at S i) (s_n S) + d9 - 1) + 1)) i (((s_off S) (pf (s_off S) (s_at S i) (s_n S) + d9)) + 1)) (upd (upd (s_hd S) i (s_hd S i + nI d9)) i ((upd (s_hd S) i (s_hd S i + nI d9)) i + 1)) (s_ms S) (va_up (va_up (s_kn S) i (hk (s_key S) (s_val S) (pf (s_off S) (s_at S i) (s_n S)) (s_kn S i) d9)) i (upd ((va_up (s_kn S) i (hk (s_key S) (s_val S) (pf (s_off S) (s_at S i) (s_n S)) (s_kn S i) d9)) i) ((s_key S (pf (s_off S) (s_at S i) (s_n S) + d9)).toNatClampNeg) ((s_val S) (pf (s_off S) (s_at S i) (s_n S) + d9))))) mk rk rv ++ F) H locs := hO
        rw [hear_kn, hear_at, hear_hd] at hO
        refine gInc (j := (pf (s_off S) (s_at S i) (s_n S) + d9)) (k := 4) (lv' := [(5, .int (nI ((pf (s_off S) (s_at S i) (s_n S) + d9) + 1))), (0, .ref (a 0)), (1, .ref (a (11 + i))), (3, .int (nI (pf (s_off S) (s_at S i) (s_n S)))), (4, .int (nI (s_to S i q9)))]) C.1 C.2.1 dX2_hearNext_71 hl rfl (by decide) rfl (fun ls hl => ?_)
        refine lv_goto (tgt := 30) C.1 C.2.1 dX2_hearNext_74 (by decide) ?_
        refine W.widen (k := 0) (n := 0) (by omega) (by omega) ?_
        exact ih_lp24 (d9 + 1) (by omega) (by omega) _ _ hO _ (lv_sub hl [1, 2, 3, 4, 0] rfl)
  refine W.widen (k := 0) (n := 0) (by omega) (by omega) ?_
  exact lp24 (s_to S i q9 + 1) 0 (by omega) (s_to_ge S i q9) _ _ hO _ (lv_sub hl [3, 4, 2, 1, 0] rfl)

set_option maxHeartbeats 4000000 in
set_option maxRecDepth 100000 in
theorem c_X2_errorsAfter (l : Launch) (E : gE) (a : Nat → Nat) (S : St) (mk rk rv : Nat → Int32) (F : va_W) (i q9 : Nat) (hn : s_n S ≤ 48) (hi : i < 6) (hq9 : q9 < 1000) : gMi l E yX2_errorsAfter wsX2_errorsAfter ({ frames := 2, cells := 0, slots := 0, locals := 46 }) (xW E a S mk rk rv ++ F) [.ref (a 0), .ref (a (11 + i)), .int (nI q9)] (nI (s_ea S i q9)) (xW E a S mk rk rv ++ F) 0 0 := by
  refine gMi.of (cc := cX2_errorsAfter) (maxL := 9) (ty := .int) (by decide) rfl (Nat.le_of_ble_eq_true rfl) ?_
  intro p e s m args below meth c A C ls hl hO
  have hl : lv_has ls 9 [(0, .ref (a 0)), (1, .ref (a (11 + i))), (2, .int (nI q9))] := hl
  have iX0 : ∀ w ∈ u_ws RX0 TX0 8, w ∈ wsX2_errorsAfter := by decide +kernel
  have iX1 : ∀ w ∈ u_ws RX1 TX1 5, w ∈ wsX2_errorsAfter := by decide +kernel
  have iX2 : ∀ w ∈ u_ws RX2 TX2 9, w ∈ wsX2_errorsAfter := by decide +kernel
  have w10 : Cond.fieldLink RX2 10 "ParrotLog" "log" "LParrotLog$Log;" ∈ wsX2_errorsAfter := by decide +kernel
  refine lv_aload_n C.1 C.2.1 dX2_errorsAfter_0 rfl (lv_at hl 0 rfl) ?_
  refine gGet (v := .ref (a 1)) (ref := RX2) (Cn := RX2) (T := TX2) (N := 9) C iX2 hO 0 rfl rfl 0 (by decide) w10 (fun _ h9 => h9) rfl dX2_errorsAfter_1 ?_
  refine lv_aload_n C.1 C.2.1 dX2_errorsAfter_4 rfl (lv_at hl 1 rfl) ?_
  refine gGetN (v := .int ((s_at S) i)) (ref := RX1) (Cn := RX1) (T := TX1) (N := 5) (host := RX2) C iX1 hO (11 + i) (xw_ship hi) rfl 2 (by decide) (by decide +kernel) (fun _ h9 => h9) rfl dX2_errorsAfter_5 ?_
  refine gCallN_i (As := [.int ((s_at S) i)]) (rest := []) C hO (c_X0_positionFrom l E a S mk rk rv F ((s_at S) i) (by omega)) ⟨va_cnB (host := RX2) 1 C.2.2.2.2.1 gX2_errorsAfter_X0_positionFrom_n233 rfl rfl rfl (C.2.2.2.2.2.2.2.1.2.1 (.methodLinkNest RX2 233 yX0_positionFrom RX2) (by decide +kernel)) (C.2.2.2.2.1 (.initialized RX0) (by decide +kernel)) (by decide +kernel) ⟨(Nat.le_of_ble_eq_true rfl), (Nat.le_of_ble_eq_true rfl)⟩, C.2.2.2.2.1 (.instanceMethod yX0_positionFrom) (by decide +kernel), C.2.2.2.2.1 (.selects RX0 yX0_positionFrom yX0_positionFrom) (by decide +kernel)⟩ (va_recv C.2.2.2.2.2.2.2.1.1 hO.1 (ci := 0) (q0 := 1) rfl rfl) rfl hl.1 rfl (Nat.le_of_ble_eq_true rfl) dX2_errorsAfter_8 ⟨(Nat.le_of_ble_eq_true rfl), (Nat.le_of_ble_eq_true rfl)⟩ (fun H locs hO => ?_)
  refine lv_istore_n (lv' := [(3, .int (nI (pf (s_off S) ((s_at S) i) (s_n S)))), (0, .ref (a 0)), (1, .ref (a (11 + i))), (2, .int (nI q9))]) C.1 C.2.1 dX2_errorsAfter_11 rfl hl (by decide) rfl (fun ls hl => ?_)
  have hpf9 := pf_le (s_off S) (s_at S i) (s_n S)
  have htl9 := s_to_le S i q9
  refine lv_aload_n C.1 C.2.1 dX2_errorsAfter_12 rfl (lv_at hl 1 rfl) ?_
  refine gGet (v := .ref (a 1)) (ref := RX2) (Cn := RX2) (T := TX2) (N := 9) C iX2 hO 0 rfl rfl 0 (by decide) w10 (fun _ h9 => h9) rfl dX2_errorsAfter_13 ?_
  refine gGetN (v := .int (nI (s_n S))) (ref := RX0) (Cn := RX0) (T := TX0) (N := 8) (host := RX2) C iX0 hO 1 rfl rfl 5 (by decide) (by decide +kernel) (fun _ h9 => h9) rfl dX2_errorsAfter_16 ?_
  refine lv_iload_n C.1 C.2.1 dX2_errorsAfter_19 rfl (lv_at hl 0 rfl) ?_
  refine lv_iload_n C.1 C.2.1 dX2_errorsAfter_20 rfl (lv_at hl 3 rfl) ?_
  refine gAddN (x := (pf (s_off S) ((s_at S) i) (s_n S))) (y := q9) C.1 C.2.1 dX2_errorsAfter_21 ?_
  refine va_mmin C.1 C.2.1 (by rw [C.2.2.1]; exact hl.1.symm) C.2.2.2.1 (C.2.2.2.2.1 (.methodLink RX2 225 Lib.Math.min.name) (by decide +kernel)) (C.2.2.2.2.1 (.static Lib.Math.min.name) (by decide +kernel)) (C.2.2.2.2.1 (.initialized "java/lang/Math") (by decide +kernel)) (C.2.2.2.2.1 (.code Lib.Math.min.name Lib.Math.min.code 2 (some .int)) (by decide +kernel)) (Nat.le_of_ble_eq_true rfl) (Nat.le_of_ble_eq_true rfl) (Nat.le_of_ble_eq_true rfl) (Nat.le_of_ble_eq_true rfl) dX2_errorsAfter_22 ?_
  refine lv_eqi (y := nI (s_to S i q9)) (nI_min (by omega) (by omega)) ?_
  refine lv_istore (lv' := [(4, .int (nI (s_to S i q9))), (3, .int (nI (pf (s_off S) ((s_at S) i) (s_n S)))), (0, .ref (a 0)), (1, .ref (a (11 + i))), (2, .int (nI q9))]) C.1 C.2.1 dX2_errorsAfter_25 hl (by decide) rfl (fun ls hl => ?_)
  refine lv_iconst (v := 0) C.1 C.2.1 dX2_errorsAfter_27 (by decide) ?_
  refine lv_istore (lv' := [(5, .int 0), (4, .int (nI (s_to S i q9))), (3, .int (nI (pf (s_off S) ((s_at S) i) (s_n S)))), (0, .ref (a 0)), (1, .ref (a (11 + i))), (2, .int (nI q9))]) C.1 C.2.1 dX2_errorsAfter_28 hl (by decide) rfl (fun ls hl => ?_)
  refine lv_iconst (v := 0) C.1 C.2.1 dX2_errorsAfter_30 (by decide) ?_
  refine lv_istore (lv' := [(6, .int 0), (5, .int 0), (4, .int (nI (s_to S i q9))), (3, .int (nI (pf (s_off S) ((s_at S) i) (s_n S)))), (0, .ref (a 0)), (1, .ref (a (11 + i))), (2, .int (nI q9))]) C.1 C.2.1 dX2_errorsAfter_31 hl (by decide) rfl (fun ls hl => ?_)
  have lp24 : ∀ (f : Nat) (c9 : Nat) (e9 : Nat), (11 ≤ c9 + f) → (c9 ≤ 10) → (e9 = s_er S i (pf (s_off S) (s_at S i) (s_n S)) (s_to S i q9) c9) → ∀ (H : Heap) (locs : List Loc), gO E A s (xW E a S mk rk rv ++ F) H locs → ∀ ls : Array Slot, lv_has ls 9 [(0, .ref (a 0)), (1, .ref (a (11 + i))), (3, .int (nI (pf (s_off S) (s_at S i) (s_n S)))), (4, .int (nI (s_to S i q9))), (5, .int (nI e9)), (6, .int (nI c9))] → W p l e ({ frames := 2, cells := 0, slots := 0, locals := 46 } : Room) s m args below meth c H locs 0 0 (MQ below (gQi E A (nI (s_ea S i q9)) (xW E a S mk rk rv ++ F)) args s 0 0 A) (F0 m 33 ls []) := by
    intro f
    induction f with
    | zero =>
      intro c9 e9 hf hcc9 he9
      exact absurd hf (by omega)
    | succ f ih_lp24 =>
      intro c9 e9 hf hcc9 he9 H locs hO ls hl
      refine lv_iload C.1 C.2.1 dX2_errorsAfter_33 (lv_at hl 5 rfl) ?_
      refine lv_bipush (v := nI 10) C.1 C.2.1 dX2_errorsAfter_35 (by decide) ?_
      refine gGeN (x := c9) (y := 10) (tgt := 105) C.1 C.2.1 (by omega) (by omega) dX2_errorsAfter_37 (by decide) (fun c_1 => ?_) (fun c_1 => ?_)
      · have hc10 : c9 = 10 := by omega
        refine lv_iload C.1 C.2.1 dX2_errorsAfter_105 (lv_at hl 4 rfl) ?_
        exact gRi C hO rfl (by rw [he9, hc10]) dX2_errorsAfter_107 (Nat.le_of_ble_eq_true rfl) (Nat.le_of_ble_eq_true rfl)
      · refine lv_aload_n C.1 C.2.1 dX2_errorsAfter_40 rfl (lv_at hl 0 rfl) ?_
        refine gGet (v := .ref (a 1)) (ref := RX2) (Cn := RX2) (T := TX2) (N := 9) C iX2 hO 0 rfl rfl 0 (by decide) w10 (fun _ h9 => h9) rfl dX2_errorsAfter_41 ?_
        refine lv_iload C.1 C.2.1 dX2_errorsAfter_44 (lv_at hl 5 rfl) ?_
        refine lv_iload_n C.1 C.2.1 dX2_errorsAfter_46 rfl (lv_at hl 2 rfl) ?_
        refine lv_iload C.1 C.2.1 dX2_errorsAfter_47 (lv_at hl 3 rfl) ?_
        refine gCallN_i (As := [.int (nI c9), .int (nI (pf (s_off S) (s_at S i) (s_n S))), .int (nI (s_to S i q9))]) (rest := []) C hO (c_X0_latestPosition l E a S mk rk rv F (nI c9) (pf (s_off S) (s_at S i) (s_n S)) (s_to S i q9) (by omega) (by omega)) ⟨va_cnB (host := RX2) 3 C.2.2.2.2.1 gX2_errorsAfter_X0_latestPosition_n240 rfl rfl rfl (C.2.2.2.2.2.2.2.1.2.1 (.methodLinkNest RX2 240 yX0_latestPosition RX2) (by decide +kernel)) (C.2.2.2.2.1 (.initialized RX0) (by decide +kernel)) (by decide +kernel) ⟨(Nat.le_of_ble_eq_true rfl), (Nat.le_of_ble_eq_true rfl)⟩, C.2.2.2.2.1 (.instanceMethod yX0_latestPosition) (by decide +kernel), C.2.2.2.2.1 (.selects RX0 yX0_latestPosition yX0_latestPosition) (by decide +kernel)⟩ (va_recv C.2.2.2.2.2.2.2.1.1 hO.1 (ci := 0) (q0 := 1) rfl rfl) rfl hl.1 rfl (Nat.le_of_ble_eq_true rfl) dX2_errorsAfter_49 ⟨(Nat.le_of_ble_eq_true rfl), (Nat.le_of_ble_eq_true rfl)⟩ (fun H locs hO => ?_)
        refine lv_istore (lv' := [(7, .int (oI (lpO (s_key S) (nI c9) (pf (s_off S) (s_at S i) (s_n S)) (s_to S i q9)))), (0, .ref (a 0)), (1, .ref (a (11 + i))), (3, .int (nI (pf (s_off S) (s_at S i) (s_n S)))), (4, .int (nI (s_to S i q9))), (5, .int (nI e9)), (6, .int (nI c9))]) C.1 C.2.1 dX2_errorsAfter_52 hl (by decide) rfl (fun ls hl => ?_)
        refine lv_iload C.1 C.2.1 dX2_errorsAfter_54 (lv_at hl 0 rfl) ?_
        refine lv_iconst (v := (-1)) C.1 C.2.1 dX2_errorsAfter_56 (by decide) ?_
        have jn24 : ∀ (H : Heap) (locs : List Loc), gO E A s (xW E a S mk rk rv ++ F) H locs → ∀ ls : Array Slot, lv_has ls 9 [(0, .ref (a 0)), (1, .ref (a (11 + i))), (3, .int (nI (pf (s_off S) (s_at S i) (s_n S)))), (4, .int (nI (s_to S i q9))), (5, .int (nI e9)), (6, .int (nI c9))] → W p l e ({ frames := 2, cells := 0, slots := 0, locals := 46 } : Room) s m args below meth c H locs 0 0 (MQ below (gQi E A (nI (s_ea S i q9)) (xW E a S mk rk rv ++ F)) args s 0 0 A) (F0 m 80 ls [.int (s_kv S i (pf (s_off S) (s_at S i) (s_n S)) (s_to S i q9) c9)]) := by
          intro   H locs hO ls hl
          refine lv_istore (lv' := [(8, .int (s_kv S i (pf (s_off S) (s_at S i) (s_n S)) (s_to S i q9) c9)), (0, .ref (a 0)), (1, .ref (a (11 + i))), (3, .int (nI (pf (s_off S) (s_at S i) (s_n S)))), (4, .int (nI (s_to S i q9))), (5, .int (nI e9)), (6, .int (nI c9))]) C.1 C.2.1 dX2_errorsAfter_80 hl (by decide) rfl (fun ls hl => ?_)
          refine lv_iload C.1 C.2.1 dX2_errorsAfter_82 (lv_at hl 0 rfl) ?_
          refine lv_aload_n C.1 C.2.1 dX2_errorsAfter_84 rfl (lv_at hl 1 rfl) ?_
          refine gGet (v := .ref (a 1)) (ref := RX2) (Cn := RX2) (T := TX2) (N := 9) C iX2 hO 0 rfl rfl 0 (by decide) w10 (fun _ h9 => h9) rfl dX2_errorsAfter_85 ?_
          refine lv_iload C.1 C.2.1 dX2_errorsAfter_88 (lv_at hl 6 rfl) ?_
          refine gCallN_i (As := [.int (nI c9)]) (rest := [.int (s_kv S i (pf (s_off S) (s_at S i) (s_n S)) (s_to S i q9) c9)]) C hO (c_X0_latestValue l E a S mk rk rv F (nI c9) (by omega)) ⟨va_cnB (host := RX2) 1 C.2.2.2.2.1 gX2_errorsAfter_X0_latestValue_n152 rfl rfl rfl (C.2.2.2.2.2.2.2.1.2.1 (.methodLinkNest RX2 152 yX0_latestValue RX2) (by decide +kernel)) (C.2.2.2.2.1 (.initialized RX0) (by decide +kernel)) (by decide +kernel) ⟨(Nat.le_of_ble_eq_true rfl), (Nat.le_of_ble_eq_true rfl)⟩, C.2.2.2.2.1 (.instanceMethod yX0_latestValue) (by decide +kernel), C.2.2.2.2.1 (.selects RX0 yX0_latestValue yX0_latestValue) (by decide +kernel)⟩ (va_recv C.2.2.2.2.2.2.2.1.1 hO.1 (ci := 0) (q0 := 1) rfl rfl) rfl hl.1 rfl (Nat.le_of_ble_eq_true rfl) dX2_errorsAfter_90 ⟨(Nat.le_of_ble_eq_true rfl), (Nat.le_of_ble_eq_true rfl)⟩ (fun H locs hO => ?_)
          refine lv_icmp_eq (tgt := 99) C.1 C.2.1 dX2_errorsAfter_93 (by decide) (fun c_2 => ?_) (fun c_2 => ?_)
          · have hz9 : s_kv S i (pf (s_off S) (s_at S i) (s_n S)) (s_to S i q9) c9 = s_wv S (nI c9) := c_2
            refine gInc (j := c9) (k := 6) (lv' := [(6, .int (nI (c9 + 1))), (8, .int (s_kv S i (pf (s_off S) (s_at S i) (s_n S)) (s_to S i q9) c9)), (0, .ref (a 0)), (1, .ref (a (11 + i))), (3, .int (nI (pf (s_off S) (s_at S i) (s_n S)))), (4, .int (nI (s_to S i q9))), (5, .int (nI e9))]) C.1 C.2.1 dX2_errorsAfter_99 hl rfl (by decide) rfl (fun ls hl => ?_)
            refine lv_goto (tgt := 33) C.1 C.2.1 dX2_errorsAfter_102 (by decide) ?_
            refine W.widen (k := 0) (n := 0) (by omega) (by omega) ?_
            exact ih_lp24 (c9 + 1) e9 (by omega) (by omega) (by first | exact by rw [he9, s_er_0 hz9] | exact by rw [he9, s_er_1 hz9]) _ _ hO _ (lv_sub hl [2, 3, 4, 5, 6, 0] rfl)
          · have hz9 : ¬ s_kv S i (pf (s_off S) (s_at S i) (s_n S)) (s_to S i q9) c9 = s_wv S (nI c9) := c_2
            refine gInc (j := e9) (k := 5) (lv' := [(5, .int (nI (e9 + 1))), (8, .int (s_kv S i (pf (s_off S) (s_at S i) (s_n S)) (s_to S i q9) c9)), (0, .ref (a 0)), (1, .ref (a (11 + i))), (3, .int (nI (pf (s_off S) (s_at S i) (s_n S)))), (4, .int (nI (s_to S i q9))), (6, .int (nI c9))]) C.1 C.2.1 dX2_errorsAfter_96 hl rfl (by decide) rfl (fun ls hl => ?_)
            refine gInc (j := c9) (k := 6) (lv' := [(6, .int (nI (c9 + 1))), (5, .int (nI (e9 + 1))), (8, .int (s_kv S i (pf (s_off S) (s_at S i) (s_n S)) (s_to S i q9) c9)), (0, .ref (a 0)), (1, .ref (a (11 + i))), (3, .int (nI (pf (s_off S) (s_at S i) (s_n S)))), (4, .int (nI (s_to S i q9)))]) C.1 C.2.1 dX2_errorsAfter_99 hl rfl (by decide) rfl (fun ls hl => ?_)
            refine lv_goto (tgt := 33) C.1 C.2.1 dX2_errorsAfter_102 (by decide) ?_
            refine W.widen (k := 0) (n := 0) (by omega) (by omega) ?_
            exact ih_lp24 (c9 + 1) (e9 + 1) (by omega) (by omega) (by first | exact by rw [he9, s_er_0 hz9] | exact by rw [he9, s_er_1 hz9]) _ _ hO _ (lv_sub hl [3, 4, 5, 6, 1, 0] rfl)
        refine lv_icmp_ne (tgt := 70) C.1 C.2.1 dX2_errorsAfter_57 (by decide) (fun c_3 => ?_) (fun c_3 => ?_)
        · obtain ⟨i24, hzz9, hi1, hi2, hi3⟩ := lpO_nm1 c_3
          refine lv_aload_n C.1 C.2.1 dX2_errorsAfter_70 rfl (lv_at hl 1 rfl) ?_
          refine gGet (v := .ref (a 1)) (ref := RX2) (Cn := RX2) (T := TX2) (N := 9) C iX2 hO 0 rfl rfl 0 (by decide) w10 (fun _ h9 => h9) rfl dX2_errorsAfter_71 ?_
          refine gGetN (v := .ref (a 4)) (ref := RX0) (Cn := RX0) (T := TX0) (N := 8) (host := RX2) C iX0 hO 1 rfl rfl 2 (by decide) (by decide +kernel) (fun _ h9 => h9) rfl dX2_errorsAfter_74 ?_
          refine lv_iload C.1 C.2.1 dX2_errorsAfter_77 (lv_at hl 0 rfl) ?_
          refine lv_eqi (y := nI i24) (by rw [hzz9]; rfl) ?_
          refine gIald (v := s_kv S i (pf (s_off S) (s_at S i) (s_n S)) (s_to S i q9) c9) (j := i24) C hO 4 rfl (by omega) (by decide) (by unfold s_kv; rw [hzz9]) dX2_errorsAfter_79 ?_
          refine W.widen (k := 0) (n := 0) (by omega) (by omega) ?_
          exact jn24   _ _ hO _ (lv_sub hl [1, 2, 3, 4, 5, 6] rfl)
        · have hzz9 : lpO (s_key S) (nI c9) (pf (s_off S) (s_at S i) (s_n S)) (s_to S i q9) = none := lpO_m1 (by omega) c_3
          refine lv_aload_n C.1 C.2.1 dX2_errorsAfter_60 rfl (lv_at hl 2 rfl) ?_
          refine gGetN (v := .ref (a (17 + i))) (ref := RX1) (Cn := RX1) (T := TX1) (N := 5) (host := RX2) C iX1 hO (11 + i) (xw_ship hi) rfl 0 (by decide) (by decide +kernel) (fun _ h9 => h9) rfl dX2_errorsAfter_61 ?_
          refine lv_iload C.1 C.2.1 dX2_errorsAfter_64 (lv_at hl 6 rfl) ?_
          refine gIald (v := ((s_kn S) i) c9) (j := c9) C hO (17 + i) (xw_kn hi) (by omega) (by decide) rfl dX2_errorsAfter_66 ?_
          refine lv_eqi (y := s_kv S i (pf (s_off S) (s_at S i) (s_n S)) (s_to S i q9) c9) (by unfold s_kv; rw [hzz9]) ?_
          refine lv_goto (tgt := 80) C.1 C.2.1 dX2_errorsAfter_67 (by decide) ?_
          refine W.widen (k := 0) (n := 0) (by omega) (by omega) ?_
          exact jn24   _ _ hO _ (lv_sub hl [1, 2, 3, 4, 5, 6] rfl)
  refine W.widen (k := 0) (n := 0) (by omega) (by omega) ?_
  exact lp24 11 0 0 (by omega) (by omega) rfl _ _ hO _ (lv_sub hl [4, 5, 3, 2, 1, 0] rfl)
end
section
/-- what holds of every state that calls lead to, as far as the walks need it -/
def s_inv (S : St) : Prop := s_n S ≤ 48 ∧ s_sh S ≤ 6 ∧ s_sc S ≤ 8 ∧ (¬ s_on S = 0 → 1 ≤ s_sc S) ∧ (s_on S = 0 ∨ s_on S = 1) ∧ s_ok S ∧ s_okp S ∧ pf (s_off S) 0 (s_n S) = 0
abbrev S_storm (S : St) (on : Int32) (sc : Nat) : St := mkS (s_off S) (s_key S) (s_val S) (s_sto S) (s_n S) (s_nx S) (s_dr S) (s_hr S) sc on (s_said S) (s_sh S) (s_pc S) (s_at S) (s_hd S) (s_ms S) (s_kn S)
abbrev S_ship (S : St) (q o : Int32) : St := mkS (s_off S) (s_key S) (s_val S) (s_sto S) (s_n S) (s_nx S) (s_dr S) (s_hr S) (s_sc S) (s_on S) (s_said S) (s_sh S + 1) (upd (s_pc S) (s_sh S) q) (upd (s_at S) (s_sh S) o) (s_hd S) (s_ms S) (s_kn S)
abbrev S_hrs (S : St) (v : Int32) : St := mkS (s_off S) (s_key S) (s_val S) (s_sto S) (s_n S) (s_nx S) (s_dr S) v (s_sc S) (s_on S) (s_said S) (s_sh S) (s_pc S) (s_at S) (s_hd S) (s_ms S) (s_kn S)
abbrev S_pass (S : St) (h : Int32) : St := S_hrs (S_ps S h.toNatClampNeg (s_sh S)) (s_hr S + h)
theorem okHours_n {h : Int32} (hk : okHours h) : 1 ≤ h.toNatClampNeg ∧ h.toNatClampNeg ≤ 60 ∧ h = nI h.toNatClampNeg := by
  obtain ⟨h1, h2⟩ := hk
  have h3 : ¬ h < 0 := by rw [Int32.lt_iff_toInt_lt] at h1 ⊢; have e0 : (0 : Int32).toInt = 0 := rfl; have e1 : (1 : Int32).toInt = 1 := rfl; omega
  obtain ⟨j, hj, rfl⟩ := nI_of h3
  rw [nI_clamp hj]
  rw [Int32.lt_iff_toInt_lt, nI_toInt hj] at h1 h2
  have e1 : (1 : Int32).toInt = 1 := rfl
  have e2 : (60 : Int32).toInt = 60 := rfl
  exact ⟨by omega, by omega, rfl⟩
theorem okKey_n {k : Int32} (hk : okKey k) : k.toNatClampNeg < 10 ∧ k = nI k.toNatClampNeg := okNat (n := 10) (by omega) hk.1 hk.2
def s_ka (S : St) (f : Nat → Int32) (o : Int32) : Int32 := match s_po S o with | none => 0 | some i => f i
theorem s_po_ne {S : St} {o : Int32} (h : s_po S o ≠ none) : ∃ i, s_po S o = some i ∧ i < s_n S := by
  cases hp : s_po S o with
  | none => exact absurd hp h
  | some i => exact ⟨i, rfl, s_po_lt hp⟩
theorem cpN_mkU (g mk : Nat → Int32) (n : Nat) : cpN (mkU g mk n) n = cpN g n := (cpF_congr (f := g) n (fun _ hi => mkU_at hi)).2
theorem cm_mkU (g mk : Nat → Int32) (fr n : Nat) : cm (mkU g mk n) fr n = cm g fr n := cm_congr n (fun _ hi => mkU_at hi)
theorem S_drop_mkU (S : St) (g mk : Nat → Int32) : S_drop S (mkU g mk (s_n S)) = S_drop S g := S_drop_congr (fun _ hi => mkU_at hi)
theorem mx_eq (d : Int64) (x : Int32) : d * 31 + x.toInt64 = mx d x := rfl
theorem mh_le {S : St} {h q : Nat} (h1 : h ≤ 60) (h2 : q ≤ 5) : mhN S h q ≤ 300 := by
  unfold mhN
  split
  · exact Nat.le_trans (Nat.mul_le_mul h1 h2) (by omega)
  · omega
theorem S_ps_hr (S : St) (h : Nat) : ∀ i, s_hr (S_ps S h i) = s_hr S := by
  intro i
  induction i with
  | zero => rfl
  | succ i ih => exact ih
set_option maxRecDepth 100000 in
theorem ml_all : ∀ i : Nat, i < 289 → ∀ n : Nat, n < 7 → 0 < n → FP.ddiv (FP.i2d (nI i)) (FP.i2d (nI n)) &&& 0x7fffffffffffffff ≤ 0x7ff0000000000000 := by decide +kernel
theorem ml_nan (i n : Nat) (hi : i ≤ 288) (h1 : 0 < n) (h2 : n ≤ 6) : vf_n64 (FP.ddiv (FP.i2d (nI i)) (FP.i2d (nI n))) := ml_all i (by omega) n (by omega) h1
end
section
set_option maxHeartbeats 4000000 in
set_option maxRecDepth 100000 in
theorem c_X2_say (l : Launch) (E : gE) (a : Nat → Nat) (S : St) (mk rk rv : Nat → Int32) (F : va_W) (k v : Int32) (hst : l.stackTraces = false) (hI : s_inv S) : gXi l E yX2_say wsX2_say ({ frames := 6, cells := 1, slots := 6, locals := 89 }) (xW E a S mk rk rv ++ F) [.ref (a 0), .int k, .int v] (okKey k ∧ okVal v) (s_nx S) (xW E a (S_spk S k v) (mk_spk S mk) rk rv ++ F) (fun En => En = xIAE ∧ ¬ (okKey k ∧ okVal v)) 1 6 := by
  refine gXi.of (cc := cX2_say) (maxL := 3) (ty := .int) (by decide) rfl (Nat.le_of_ble_eq_true rfl) ?_
  intro p e s m args below meth c A C ht ls hl hO
  have hl : lv_has ls 3 [(0, .ref (a 0)), (1, .int k), (2, .int v)] := hl
  have gwIAE : ∀ w ∈ (vx_atS RX2 41 "java/lang/IllegalArgumentException" ["java/lang/RuntimeException", "java/lang/Exception"]).filter goodWord, w ∈ wsX2_say := by decide +kernel
  have gNIAE : ∀ w ∈ (vx_atS RX2 41 "java/lang/IllegalArgumentException" ["java/lang/RuntimeException", "java/lang/Exception"]).filter (fun w => !goodWord w), w ∈ eNw := by decide +kernel
  obtain ⟨hn, hsh, hsc, hOn, hOb, hok9, hpc9, hp0⟩ := hI
  refine lv_iload_n C.1 C.2.1 dX2_say_0 rfl (lv_at hl 1 rfl) ?_
  refine gCallS_i (As := [.int k]) (rest := []) C hO (c_X2_isKey l E a S mk rk rv F k) (cwS 1 C.2.2.2.2.1 gX2_say_X2_isKey rfl rfl rfl (by decide +kernel) ⟨(Nat.le_of_ble_eq_true rfl), (Nat.le_of_ble_eq_true rfl)⟩) rfl hl.1 rfl (Nat.le_of_ble_eq_true rfl) dX2_say_1 ⟨(Nat.le_of_ble_eq_true rfl), (Nat.le_of_ble_eq_true rfl)⟩ (fun H locs hO => ?_)
  refine lv_if_ne (tgt := 17) C.1 C.2.1 dX2_say_4 (by decide) (fun c_1 => ?_) (fun c_1 => ?_)
  · have hz := bT c_1
    refine lv_iload_n C.1 C.2.1 dX2_say_17 rfl (lv_at hl 2 rfl) ?_
    refine lv_sipush (v := (-999)) C.1 C.2.1 dX2_say_18 (by decide) ?_
    refine lv_icmp_lt (tgt := 31) C.1 C.2.1 dX2_say_21 (by decide) (fun c_2 => ?_) (fun c_2 => ?_)
    · exact gThrow (E0 := "java/lang/IllegalArgumentException") (text := "value is not -999 to 999") C hst hO ht hl.1 (by decide +kernel) (C.2.2.2.2.1 (.classLink RX2 37 "java/lang/IllegalArgumentException") (by decide +kernel)) (C.2.2.2.2.1 (.initialized "java/lang/IllegalArgumentException") (by decide +kernel)) (C.2.2.2.2.2.2.2.1.2.2.1 (44, "value is not -999 to 999") (by decide +kernel)) (vx_hat (fun w hw => C.2.2.2.2.1 w (gwIAE w hw)) gNIAE (gNb C)) (by decide +kernel) (by first | exact ⟨rfl, fun g => g.2.1 c_2⟩ | exact ⟨rfl, fun g => g.2.2 c_3⟩) dX2_say_31 dX2_say_34 dX2_say_35 dX2_say_37 dX2_say_40 (Nat.le_of_ble_eq_true rfl) (Nat.le_of_ble_eq_true rfl) (Nat.le_of_ble_eq_true rfl) (Nat.le_of_ble_eq_true rfl) (Nat.le_of_ble_eq_true rfl) (Nat.le_of_ble_eq_true rfl) 
    · refine lv_iload_n C.1 C.2.1 dX2_say_24 rfl (lv_at hl 2 rfl) ?_
      refine lv_sipush (v := nI 999) C.1 C.2.1 dX2_say_25 (by decide) ?_
      refine gLeI (tgt := 41) C.1 C.2.1 dX2_say_28 (by decide) (fun c_3 => ?_) (fun c_3 => ?_)
      · refine lv_aload_n C.1 C.2.1 dX2_say_41 rfl (lv_at hl 0 rfl) ?_
        refine lv_iload_n C.1 C.2.1 dX2_say_42 rfl (lv_at hl 1 rfl) ?_
        refine lv_iload_n C.1 C.2.1 dX2_say_43 rfl (lv_at hl 2 rfl) ?_
        refine gCall_i (As := [.int k, .int v]) (rest := []) C hO (c_X2_speak l E a S mk rk rv F k v (by omega) (by omega) (by omega) hOn) (cwV 2 C.2.2.2.2.1 gX2_say_X2_speak rfl rfl rfl (by decide +kernel) ⟨(Nat.le_of_ble_eq_true rfl), (Nat.le_of_ble_eq_true rfl)⟩) (va_recv C.2.2.2.2.2.2.2.1.1 hO.1 (ci := 2) (q0 := 0) rfl rfl) rfl hl.1 rfl (Nat.le_of_ble_eq_true rfl) dX2_say_44 ⟨(Nat.le_of_ble_eq_true rfl), (Nat.le_of_ble_eq_true rfl)⟩ (fun H locs hO => ?_)
        have hO : gO E A s (xW E a (S_spk S k v) (mk_spk S mk) rk rv ++ F) H locs := hO
        exact gXRi C hO rfl (⟨hz, c_2, c_3⟩) rfl dX2_say_47 (Nat.le_of_ble_eq_true rfl) (Nat.le_of_ble_eq_true rfl)
      · exact gThrow (E0 := "java/lang/IllegalArgumentException") (text := "value is not -999 to 999") C hst hO ht hl.1 (by decide +kernel) (C.2.2.2.2.1 (.classLink RX2 37 "java/lang/IllegalArgumentException") (by decide +kernel)) (C.2.2.2.2.1 (.initialized "java/lang/IllegalArgumentException") (by decide +kernel)) (C.2.2.2.2.2.2.2.1.2.2.1 (44, "value is not -999 to 999") (by decide +kernel)) (vx_hat (fun w hw => C.2.2.2.2.1 w (gwIAE w hw)) gNIAE (gNb C)) (by decide +kernel) (by first | exact ⟨rfl, fun g => g.2.1 c_2⟩ | exact ⟨rfl, fun g => g.2.2 c_3⟩) dX2_say_31 dX2_say_34 dX2_say_35 dX2_say_37 dX2_say_40 (Nat.le_of_ble_eq_true rfl) (Nat.le_of_ble_eq_true rfl) (Nat.le_of_ble_eq_true rfl) (Nat.le_of_ble_eq_true rfl) (Nat.le_of_ble_eq_true rfl) (Nat.le_of_ble_eq_true rfl) 
  · have hz := bF c_1
    exact gThrow (E0 := "java/lang/IllegalArgumentException") (text := "key is not 0 to 9") C hst hO ht hl.1 (by decide +kernel) (C.2.2.2.2.1 (.classLink RX2 37 "java/lang/IllegalArgumentException") (by decide +kernel)) (C.2.2.2.2.1 (.initialized "java/lang/IllegalArgumentException") (by decide +kernel)) (C.2.2.2.2.2.2.2.1.2.2.1 (39, "key is not 0 to 9") (by decide +kernel)) (vx_hat (fun w hw => C.2.2.2.2.1 w (gwIAE w hw)) gNIAE (gNb C)) (by decide +kernel) (⟨rfl, fun g => hz g.1⟩) dX2_say_7 dX2_say_10 dX2_say_11 dX2_say_13 dX2_say_16 (Nat.le_of_ble_eq_true rfl) (Nat.le_of_ble_eq_true rfl) (Nat.le_of_ble_eq_true rfl) (Nat.le_of_ble_eq_true rfl) (Nat.le_of_ble_eq_true rfl) (Nat.le_of_ble_eq_true rfl) 

set_option maxHeartbeats 4000000 in
set_option maxRecDepth 100000 in
theorem c_X2_startStorm (l : Launch) (E : gE) (a : Nat → Nat) (S : St) (mk rk rv : Nat → Int32) (F : va_W)  (hst : l.stackTraces = false) (hI : s_inv S) : gXi l E yX2_startStorm wsX2_startStorm ({ frames := 6, cells := 1, slots := 6, locals := 82 }) (xW E a S mk rk rv ++ F) [.ref (a 0)] (s_on S = 0 ∧ s_sc S < 8) (nI (s_sc S)) (xW E a (S_storm S 1 (s_sc S + 1)) mk rk rv ++ F) (fun En => En = xISE ∧ ¬ (s_on S = 0 ∧ s_sc S < 8)) 1 6 := by
  refine gXi.of (cc := cX2_startStorm) (maxL := 1) (ty := .int) (by decide) rfl (Nat.le_of_ble_eq_true rfl) ?_
  intro p e s m args below meth c A C ht ls hl hO
  have hl : lv_has ls 1 [(0, .ref (a 0))] := hl
  have iX2 : ∀ w ∈ u_ws RX2 TX2 9, w ∈ wsX2_startStorm := by decide +kernel
  have w50 : Cond.fieldLink RX2 50 "ParrotLog" "stormOn" "Z" ∈ wsX2_startStorm := by decide +kernel
  have w59 : Cond.fieldLink RX2 59 "ParrotLog" "stormCount" "I" ∈ wsX2_startStorm := by decide +kernel
  have gwISE : ∀ w ∈ (vx_atS RX2 58 "java/lang/IllegalStateException" ["java/lang/RuntimeException", "java/lang/Exception"]).filter goodWord, w ∈ wsX2_startStorm := by decide +kernel
  have gNISE : ∀ w ∈ (vx_atS RX2 58 "java/lang/IllegalStateException" ["java/lang/RuntimeException", "java/lang/Exception"]).filter (fun w => !goodWord w), w ∈ eNw := by decide +kernel
  obtain ⟨hn, hsh, hsc, hOn, hOb, hok9, hpc9, hp0⟩ := hI
  refine lv_aload_n C.1 C.2.1 dX2_startStorm_0 rfl (lv_at hl 0 rfl) ?_
  refine gGet (v := .int (s_on S)) (ref := RX2) (Cn := RX2) (T := TX2) (N := 9) C iX2 hO 0 rfl rfl 7 (by decide) w50 (fun _ h9 => h9) rfl dX2_startStorm_1 ?_
  refine lv_if_eq (tgt := 17) C.1 C.2.1 dX2_startStorm_4 (by decide) (fun c_1 => ?_) (fun c_1 => ?_)
  · refine lv_aload_n C.1 C.2.1 dX2_startStorm_17 rfl (lv_at hl 0 rfl) ?_
    refine gGet (v := .int (nI (s_sc S))) (ref := RX2) (Cn := RX2) (T := TX2) (N := 9) C iX2 hO 0 rfl rfl 6 (by decide) w59 (fun _ h9 => h9) rfl dX2_startStorm_18 ?_
    refine lv_bipush (v := nI 8) C.1 C.2.1 dX2_startStorm_21 (by decide) ?_
    refine gLtN (x := (s_sc S)) (y := 8) (tgt := 36) C.1 C.2.1 (by omega) (by omega) dX2_startStorm_23 (by decide) (fun c_2 => ?_) (fun c_2 => ?_)
    · refine lv_aload_n C.1 C.2.1 dX2_startStorm_36 rfl (lv_at hl 0 rfl) ?_
      refine lv_iconst (v := 1) C.1 C.2.1 dX2_startStorm_37 (by decide) ?_
      refine gPut (ws' := (xW E a (mkS (s_off S) (s_key S) (s_val S) (s_sto S) (s_n S) (s_nx S) (s_dr S) (s_hr S) (s_sc S) 1 (s_said S) (s_sh S) (s_pc S) (s_at S) (s_hd S) (s_ms S) (s_kn S)) mk rk rv ++ F)) (ref := RX2) (Cn := RX2) (T := TX2) (N := 9) C iX2 tyX2 tyX2_ok nmX2 hO 0 rfl rfl 7 (by decide) w50 (fun _ h9 => h9) rfl (by decide +kernel) rfl rfl (Nat.le_of_ble_eq_true rfl) rfl dX2_startStorm_38 (fun H locs hO => ?_)
      refine lv_aload_n C.1 C.2.1 dX2_startStorm_41 rfl (lv_at hl 0 rfl) ?_
      refine lv_dup C.1 C.2.1 dX2_startStorm_42 rfl ?_
      refine gGet (v := .int (nI (s_sc S))) (ref := RX2) (Cn := RX2) (T := TX2) (N := 9) C iX2 hO 0 rfl rfl 6 (by decide) w59 (fun _ h9 => h9) rfl dX2_startStorm_43 ?_
      refine lv_iconst (v := 1) C.1 C.2.1 dX2_startStorm_46 (by decide) ?_
      refine gAddN (x := (s_sc S)) (y := 1) C.1 C.2.1 dX2_startStorm_47 ?_
      refine gPut (ws' := (xW E a (mkS (s_off S) (s_key S) (s_val S) (s_sto S) (s_n S) (s_nx S) (s_dr S) (s_hr S) ((s_sc S) + 1) 1 (s_said S) (s_sh S) (s_pc S) (s_at S) (s_hd S) (s_ms S) (s_kn S)) mk rk rv ++ F)) (ref := RX2) (Cn := RX2) (T := TX2) (N := 9) C iX2 tyX2 tyX2_ok nmX2 hO 0 rfl rfl 6 (by decide) w59 (fun _ h9 => h9) rfl (by decide +kernel) rfl rfl (Nat.le_of_ble_eq_true rfl) rfl dX2_startStorm_48 (fun H locs hO => ?_)
      refine lv_aload_n C.1 C.2.1 dX2_startStorm_51 rfl (lv_at hl 0 rfl) ?_
      refine gGet (v := .int (nI ((s_sc S) + 1))) (ref := RX2) (Cn := RX2) (T := TX2) (N := 9) C iX2 hO 0 rfl rfl 6 (by decide) w59 (fun _ h9 => h9) rfl dX2_startStorm_52 ?_
      refine lv_iconst (v := 1) C.1 C.2.1 dX2_startStorm_55 (by decide) ?_
      refine gSubN (x := ((s_sc S) + 1)) (y := 1) C.1 C.2.1 (by omega) dX2_startStorm_56 ?_
      exact gXRi C hO rfl (⟨c_1, c_2⟩) rfl dX2_startStorm_57 (Nat.le_of_ble_eq_true rfl) (Nat.le_of_ble_eq_true rfl)
    · exact gThrow (E0 := "java/lang/IllegalStateException") (text := "there were 8 storms") C hst hO ht hl.1 (by decide +kernel) (C.2.2.2.2.1 (.classLink RX2 54 "java/lang/IllegalStateException") (by decide +kernel)) (C.2.2.2.2.1 (.initialized "java/lang/IllegalStateException") (by decide +kernel)) (C.2.2.2.2.2.2.2.1.2.2.1 (63, "there were 8 storms") (by decide +kernel)) (vx_hat (fun w hw => C.2.2.2.2.1 w (gwISE w hw)) gNISE (gNb C)) (by decide +kernel) (⟨rfl, fun g => by have := g.2; omega⟩) dX2_startStorm_26 dX2_startStorm_29 dX2_startStorm_30 dX2_startStorm_32 dX2_startStorm_35 (Nat.le_of_ble_eq_true rfl) (Nat.le_of_ble_eq_true rfl) (Nat.le_of_ble_eq_true rfl) (Nat.le_of_ble_eq_true rfl) (Nat.le_of_ble_eq_true rfl) (Nat.le_of_ble_eq_true rfl) 
  · exact gThrow (E0 := "java/lang/IllegalStateException") (text := "a storm is on") C hst hO ht hl.1 (by decide +kernel) (C.2.2.2.2.1 (.classLink RX2 54 "java/lang/IllegalStateException") (by decide +kernel)) (C.2.2.2.2.1 (.initialized "java/lang/IllegalStateException") (by decide +kernel)) (C.2.2.2.2.2.2.2.1.2.2.1 (56, "a storm is on") (by decide +kernel)) (vx_hat (fun w hw => C.2.2.2.2.1 w (gwISE w hw)) gNISE (gNb C)) (by decide +kernel) (⟨rfl, fun g => c_1 g.1⟩) dX2_startStorm_7 dX2_startStorm_10 dX2_startStorm_11 dX2_startStorm_13 dX2_startStorm_16 (Nat.le_of_ble_eq_true rfl) (Nat.le_of_ble_eq_true rfl) (Nat.le_of_ble_eq_true rfl) (Nat.le_of_ble_eq_true rfl) (Nat.le_of_ble_eq_true rfl) (Nat.le_of_ble_eq_true rfl) 

set_option maxHeartbeats 4000000 in
set_option maxRecDepth 100000 in
theorem c_X2_endStorm (l : Launch) (E : gE) (a : Nat → Nat) (S : St) (mk rk rv : Nat → Int32) (F : va_W)  (hst : l.stackTraces = false) (hI : s_inv S) : gXi l E yX2_endStorm wsX2_endStorm ({ frames := 6, cells := 1, slots := 6, locals := 82 }) (xW E a S mk rk rv ++ F) [.ref (a 0)] (¬ s_on S = 0) (s_said S (s_sc S - 1)) (xW E a (S_storm S 0 (s_sc S)) mk rk rv ++ F) (fun En => En = xISE ∧ s_on S = 0) 1 6 := by
  refine gXi.of (cc := cX2_endStorm) (maxL := 1) (ty := .int) (by decide) rfl (Nat.le_of_ble_eq_true rfl) ?_
  intro p e s m args below meth c A C ht ls hl hO
  have hl : lv_has ls 1 [(0, .ref (a 0))] := hl
  have iX2 : ∀ w ∈ u_ws RX2 TX2 9, w ∈ wsX2_endStorm := by decide +kernel
  have w50 : Cond.fieldLink RX2 50 "ParrotLog" "stormOn" "Z" ∈ wsX2_endStorm := by decide +kernel
  have w16 : Cond.fieldLink RX2 16 "ParrotLog" "saidInStorm" "[I" ∈ wsX2_endStorm := by decide +kernel
  have w59 : Cond.fieldLink RX2 59 "ParrotLog" "stormCount" "I" ∈ wsX2_endStorm := by decide +kernel
  have gwISE : ∀ w ∈ (vx_atS RX2 58 "java/lang/IllegalStateException" ["java/lang/RuntimeException", "java/lang/Exception"]).filter goodWord, w ∈ wsX2_endStorm := by decide +kernel
  have gNISE : ∀ w ∈ (vx_atS RX2 58 "java/lang/IllegalStateException" ["java/lang/RuntimeException", "java/lang/Exception"]).filter (fun w => !goodWord w), w ∈ eNw := by decide +kernel
  obtain ⟨hn, hsh, hsc, hOn, hOb, hok9, hpc9, hp0⟩ := hI
  refine lv_aload_n C.1 C.2.1 dX2_endStorm_0 rfl (lv_at hl 0 rfl) ?_
  refine gGet (v := .int (s_on S)) (ref := RX2) (Cn := RX2) (T := TX2) (N := 9) C iX2 hO 0 rfl rfl 7 (by decide) w50 (fun _ h9 => h9) rfl dX2_endStorm_1 ?_
  refine lv_if_ne (tgt := 17) C.1 C.2.1 dX2_endStorm_4 (by decide) (fun c_1 => ?_) (fun c_1 => ?_)
  · have h1s := hOn c_1
    refine lv_aload_n C.1 C.2.1 dX2_endStorm_17 rfl (lv_at hl 0 rfl) ?_
    refine lv_iconst (v := 0) C.1 C.2.1 dX2_endStorm_18 (by decide) ?_
    refine gPut (ws' := (xW E a (mkS (s_off S) (s_key S) (s_val S) (s_sto S) (s_n S) (s_nx S) (s_dr S) (s_hr S) (s_sc S) 0 (s_said S) (s_sh S) (s_pc S) (s_at S) (s_hd S) (s_ms S) (s_kn S)) mk rk rv ++ F)) (ref := RX2) (Cn := RX2) (T := TX2) (N := 9) C iX2 tyX2 tyX2_ok nmX2 hO 0 rfl rfl 7 (by decide) w50 (fun _ h9 => h9) rfl (by decide +kernel) rfl rfl (Nat.le_of_ble_eq_true rfl) rfl dX2_endStorm_19 (fun H locs hO => ?_)
    refine lv_aload_n C.1 C.2.1 dX2_endStorm_22 rfl (lv_at hl 0 rfl) ?_
    refine gGet (v := .ref (a 7)) (ref := RX2) (Cn := RX2) (T := TX2) (N := 9) C iX2 hO 0 rfl rfl 1 (by decide) w16 (fun _ h9 => h9) rfl dX2_endStorm_23 ?_
    refine lv_aload_n C.1 C.2.1 dX2_endStorm_26 rfl (lv_at hl 0 rfl) ?_
    refine gGet (v := .int (nI (s_sc S))) (ref := RX2) (Cn := RX2) (T := TX2) (N := 9) C iX2 hO 0 rfl rfl 6 (by decide) w59 (fun _ h9 => h9) rfl dX2_endStorm_27 ?_
    refine lv_iconst (v := 1) C.1 C.2.1 dX2_endStorm_30 (by decide) ?_
    refine gSubN (x := (s_sc S)) (y := 1) C.1 C.2.1 h1s dX2_endStorm_31 ?_
    refine gIald (v := (s_said S) ((s_sc S) - 1)) (j := ((s_sc S) - 1)) C hO 7 rfl (by omega) (by decide) rfl dX2_endStorm_32 ?_
    exact gXRi C hO rfl c_1 rfl dX2_endStorm_33 (Nat.le_of_ble_eq_true rfl) (Nat.le_of_ble_eq_true rfl)
  · exact gThrow (E0 := "java/lang/IllegalStateException") (text := "no storm is on") C hst hO ht hl.1 (by decide +kernel) (C.2.2.2.2.1 (.classLink RX2 54 "java/lang/IllegalStateException") (by decide +kernel)) (C.2.2.2.2.1 (.initialized "java/lang/IllegalStateException") (by decide +kernel)) (C.2.2.2.2.2.2.2.1.2.2.1 (65, "no storm is on") (by decide +kernel)) (vx_hat (fun w hw => C.2.2.2.2.1 w (gwISE w hw)) gNISE (gNb C)) (by decide +kernel) (⟨rfl, c_1⟩) dX2_endStorm_7 dX2_endStorm_10 dX2_endStorm_11 dX2_endStorm_13 dX2_endStorm_16 (Nat.le_of_ble_eq_true rfl) (Nat.le_of_ble_eq_true rfl) (Nat.le_of_ble_eq_true rfl) (Nat.le_of_ble_eq_true rfl) (Nat.le_of_ble_eq_true rfl) (Nat.le_of_ble_eq_true rfl) 

set_option maxHeartbeats 4000000 in
set_option maxRecDepth 100000 in
theorem c_X2_replay (l : Launch) (E : gE) (a : Nat → Nat) (S : St) (mk rk rv : Nat → Int32) (F : va_W) (x : Int32) (hst : l.stackTraces = false) (hI : s_inv S) : gXi l E yX2_replay wsX2_replay ({ frames := 7, cells := 2, slots := 12, locals := 103 }) (xW E a S mk rk rv ++ F) [.ref (a 0), .int x] (okStorm S x ∧ s_on S = 0) (nI (cnt (s_sto S) x (s_n S))) (xW E a (S_rpl S x) (mk_rpl S x mk) (flF (s_key S) (s_sto S) x rk (s_n S)) (flF (s_val S) (s_sto S) x rv (s_n S)) ++ F) (fun En => (En = xIOE ∧ ¬ okStorm S x) ∨ (En = xISE ∧ okStorm S x ∧ ¬ s_on S = 0)) 2 12 := by
  refine gXi.of (cc := cX2_replay) (maxL := 4) (ty := .int) (by decide) rfl (Nat.le_of_ble_eq_true rfl) ?_
  intro p e s m args below meth c A C ht ls hl hO
  have hl : lv_has ls 4 [(0, .ref (a 0)), (1, .int x)] := hl
  have iX2 : ∀ w ∈ u_ws RX2 TX2 9, w ∈ wsX2_replay := by decide +kernel
  have w50 : Cond.fieldLink RX2 50 "ParrotLog" "stormOn" "Z" ∈ wsX2_replay := by decide +kernel
  have w10 : Cond.fieldLink RX2 10 "ParrotLog" "log" "LParrotLog$Log;" ∈ wsX2_replay := by decide +kernel
  have w27 : Cond.fieldLink RX2 27 "ParrotLog" "replayKeys" "[I" ∈ wsX2_replay := by decide +kernel
  have w30 : Cond.fieldLink RX2 30 "ParrotLog" "replayValues" "[I" ∈ wsX2_replay := by decide +kernel
  have gwISE : ∀ w ∈ (vx_atS RX2 58 "java/lang/IllegalStateException" ["java/lang/RuntimeException", "java/lang/Exception"]).filter goodWord, w ∈ wsX2_replay := by decide +kernel
  have gNISE : ∀ w ∈ (vx_atS RX2 58 "java/lang/IllegalStateException" ["java/lang/RuntimeException", "java/lang/Exception"]).filter (fun w => !goodWord w), w ∈ eNw := by decide +kernel
  obtain ⟨hn, hsh, hsc, hOn, hOb, hok9, hpc9, hp0⟩ := hI
  refine lv_aload_n C.1 C.2.1 dX2_replay_0 rfl (lv_at hl 0 rfl) ?_
  refine lv_iload_n C.1 C.2.1 dX2_replay_1 rfl (lv_at hl 1 rfl) ?_
  refine gXCall_v (As := [.int x]) (rest := []) C hO (c_X2_checkStorm l E a S mk rk rv F x hst) (cwV 1 C.2.2.2.2.1 gX2_replay_X2_checkStorm rfl rfl rfl (by decide +kernel) ⟨(Nat.le_of_ble_eq_true rfl), (Nat.le_of_ble_eq_true rfl)⟩) (va_recv C.2.2.2.2.2.2.2.1.1 hO.1 (ci := 2) (q0 := 0) rfl rfl) rfl hl.1 rfl (Nat.le_of_ble_eq_true rfl) dX2_replay_2 ⟨(Nat.le_of_ble_eq_true rfl), (Nat.le_of_ble_eq_true rfl)⟩ (fun E0 ce q9 H locs hO hcell hcv hcl hbad => ?_) (fun H locs hO hok => ?_)
  · exact gXout C hO ht hcell hcv hcl (Or.inl hbad) (Nat.le_of_ble_eq_true rfl) (Nat.le_of_ble_eq_true rfl)
  refine lv_aload_n C.1 C.2.1 dX2_replay_5 rfl (lv_at hl 0 rfl) ?_
  refine gGet (v := .int (s_on S)) (ref := RX2) (Cn := RX2) (T := TX2) (N := 9) C iX2 hO 0 rfl rfl 7 (by decide) w50 (fun _ h9 => h9) rfl dX2_replay_6 ?_
  refine lv_if_eq (tgt := 22) C.1 C.2.1 dX2_replay_9 (by decide) (fun c_2 => ?_) (fun c_2 => ?_)
  · have hz9 : s_on S = 0 := c_2
    refine lv_aload_n C.1 C.2.1 dX2_replay_22 rfl (lv_at hl 0 rfl) ?_
    refine gGet (v := .ref (a 1)) (ref := RX2) (Cn := RX2) (T := TX2) (N := 9) C iX2 hO 0 rfl rfl 0 (by decide) w10 (fun _ h9 => h9) rfl dX2_replay_23 ?_
    refine lv_iload_n C.1 C.2.1 dX2_replay_26 rfl (lv_at hl 1 rfl) ?_
    refine lv_aload_n C.1 C.2.1 dX2_replay_27 rfl (lv_at hl 0 rfl) ?_
    refine gGet (v := .ref (a 9)) (ref := RX2) (Cn := RX2) (T := TX2) (N := 9) C iX2 hO 0 rfl rfl 3 (by decide) w27 (fun _ h9 => h9) rfl dX2_replay_28 ?_
    refine lv_aload_n C.1 C.2.1 dX2_replay_31 rfl (lv_at hl 0 rfl) ?_
    refine gGet (v := .ref (a 10)) (ref := RX2) (Cn := RX2) (T := TX2) (N := 9) C iX2 hO 0 rfl rfl 4 (by decide) w30 (fun _ h9 => h9) rfl dX2_replay_32 ?_
    refine gCallN_i (As := [.int x, .ref (a 9), .ref (a 10)]) (rest := []) C hO (c_X0_copyStorm l E a S mk rk rv F x (by omega)) ⟨va_cnB (host := RX2) 3 C.2.2.2.2.1 gX2_replay_X0_copyStorm_n71 rfl rfl rfl (C.2.2.2.2.2.2.2.1.2.1 (.methodLinkNest RX2 71 yX0_copyStorm RX2) (by decide +kernel)) (C.2.2.2.2.1 (.initialized RX0) (by decide +kernel)) (by decide +kernel) ⟨(Nat.le_of_ble_eq_true rfl), (Nat.le_of_ble_eq_true rfl)⟩, C.2.2.2.2.1 (.instanceMethod yX0_copyStorm) (by decide +kernel), C.2.2.2.2.1 (.selects RX0 yX0_copyStorm yX0_copyStorm) (by decide +kernel)⟩ (va_recv C.2.2.2.2.2.2.2.1.1 hO.1 (ci := 0) (q0 := 1) rfl rfl) rfl hl.1 rfl (Nat.le_of_ble_eq_true rfl) dX2_replay_35 ⟨(Nat.le_of_ble_eq_true rfl), (Nat.le_of_ble_eq_true rfl)⟩ (fun H locs hO => ?_)
    have hO : gO E A s (xW E a S mk (flF (s_key S) (s_sto S) x rk (s_n S)) (flF (s_val S) (s_sto S) x rv (s_n S)) ++ F) H locs := hO
    refine lv_istore_n (lv' := [(2, .int (nI (cnt (s_sto S) x (s_n S)))), (0, .ref (a 0)), (1, .int x)]) C.1 C.2.1 dX2_replay_38 rfl hl (by decide) rfl (fun ls hl => ?_)
    refine lv_iconst (v := 0) C.1 C.2.1 dX2_replay_39 (by decide) ?_
    refine lv_istore_n (lv' := [(3, .int 0), (2, .int (nI (cnt (s_sto S) x (s_n S)))), (0, .ref (a 0)), (1, .int x)]) C.1 C.2.1 dX2_replay_40 rfl hl (by decide) rfl (fun ls hl => ?_)
    have lp24 : ∀ (f : Nat) (k24 : Nat), (cnt (s_sto S) x (s_n S) + 1 ≤ k24 + f) → (k24 ≤ cnt (s_sto S) x (s_n S)) → ∀ (H : Heap) (locs : List Loc), gO E A s (xW E a (S_rp S (flF (s_key S) (s_sto S) x rk (s_n S)) (flF (s_val S) (s_sto S) x rv (s_n S)) k24) (mk_rp S (flF (s_key S) (s_sto S) x rk (s_n S)) (flF (s_val S) (s_sto S) x rv (s_n S)) mk k24) (flF (s_key S) (s_sto S) x rk (s_n S)) (flF (s_val S) (s_sto S) x rv (s_n S)) ++ F) H locs → ∀ ls : Array Slot, lv_has ls 4 [(0, .ref (a 0)), (2, .int (nI (cnt (s_sto S) x (s_n S)))), (3, .int (nI k24))] → W p l e ({ frames := 7, cells := 2, slots := 12, locals := 103 } : Room) s m args below meth c H locs 1 6 (vx_MQ below (gXQi E A (okStorm S x ∧ s_on S = 0) (nI (cnt (s_sto S) x (s_n S))) (xW E a (S_rpl S x) (mk_rpl S x mk) (flF (s_key S) (s_sto S) x rk (s_n S)) (flF (s_val S) (s_sto S) x rv (s_n S)) ++ F)) (gXC E A (fun En => (En = xIOE ∧ ¬ okStorm S x) ∨ (En = xISE ∧ okStorm S x ∧ ¬ s_on S = 0)) (xW E a S mk rk rv ++ F)) args s 2 12 A) (F0 m 41 ls []) := by
      intro f
      induction f with
      | zero =>
        intro k24 hf hk24
        exact absurd hf (by omega)
      | succ f ih_lp24 =>
        intro k24 hf hk24 H locs hO ls hl
        have hct9 := cnt_le (s_sto S) x (s_n S)
        refine lv_iload_n C.1 C.2.1 dX2_replay_41 rfl (lv_at hl 2 rfl) ?_
        refine lv_iload_n C.1 C.2.1 dX2_replay_42 rfl (lv_at hl 1 rfl) ?_
        refine gGeN (x := k24) (y := (cnt (s_sto S) x (s_n S))) (tgt := 69) C.1 C.2.1 (by omega) (by omega) dX2_replay_43 (by decide) (fun c_3 => ?_) (fun c_3 => ?_)
        · have hke9 : k24 = cnt (s_sto S) x (s_n S) := by omega
          refine lv_iload_n C.1 C.2.1 dX2_replay_69 rfl (lv_at hl 1 rfl) ?_
          exact gXRi C (by rw [← (S_rpl_of S x rk rv mk).1, ← (S_rpl_of S x rk rv mk).2, ← hke9]; exact hO) rfl (⟨hok, hz9⟩) rfl dX2_replay_70 (Nat.le_of_ble_eq_true rfl) (Nat.le_of_ble_eq_true rfl)
        · obtain ⟨hs1, hs2, hs3, hs4, hs5⟩ := S_rp_keep S hn (flF (s_key S) (s_sto S) x rk (s_n S)) (flF (s_val S) (s_sto S) x rv (s_n S)) k24
          refine lv_aload_n C.1 C.2.1 dX2_replay_46 rfl (lv_at hl 0 rfl) ?_
          refine lv_aload_n C.1 C.2.1 dX2_replay_47 rfl (lv_at hl 0 rfl) ?_
          refine gGet (v := .ref (a 9)) (ref := RX2) (Cn := RX2) (T := TX2) (N := 9) C iX2 hO 0 rfl rfl 3 (by decide) w27 (fun _ h9 => h9) rfl dX2_replay_48 ?_
          refine lv_iload_n C.1 C.2.1 dX2_replay_51 rfl (lv_at hl 2 rfl) ?_
          refine gIald (v := (flF (s_key S) (s_sto S) x rk (s_n S)) k24) (j := k24) C hO 9 rfl (by omega) (by decide) rfl dX2_replay_52 ?_
          refine lv_aload_n C.1 C.2.1 dX2_replay_53 rfl (lv_at hl 0 rfl) ?_
          refine gGet (v := .ref (a 10)) (ref := RX2) (Cn := RX2) (T := TX2) (N := 9) C iX2 hO 0 rfl rfl 4 (by decide) w30 (fun _ h9 => h9) rfl dX2_replay_54 ?_
          refine lv_iload_n C.1 C.2.1 dX2_replay_57 rfl (lv_at hl 2 rfl) ?_
          refine gIald (v := (flF (s_val S) (s_sto S) x rv (s_n S)) k24) (j := k24) C hO 10 rfl (by omega) (by decide) rfl dX2_replay_58 ?_
          refine gCall_i (As := [.int ((flF (s_key S) (s_sto S) x rk (s_n S)) k24), .int ((flF (s_val S) (s_sto S) x rv (s_n S)) k24)]) (rest := []) C hO (c_X2_speak l E a (S_rp S (flF (s_key S) (s_sto S) x rk (s_n S)) (flF (s_val S) (s_sto S) x rv (s_n S)) k24) (mk_rp S (flF (s_key S) (s_sto S) x rk (s_n S)) (flF (s_val S) (s_sto S) x rv (s_n S)) mk k24) (flF (s_key S) (s_sto S) x rk (s_n S)) (flF (s_val S) (s_sto S) x rv (s_n S)) F ((flF (s_key S) (s_sto S) x rk (s_n S)) k24) ((flF (s_val S) (s_sto S) x rv (s_n S)) k24) (by omega) (by omega) (by omega) (by rw [hs2, hs1]; exact hOn)) (cwV 2 C.2.2.2.2.1 gX2_replay_X2_speak rfl rfl rfl (by decide +kernel) ⟨(Nat.le_of_ble_eq_true rfl), (Nat.le_of_ble_eq_true rfl)⟩) (va_recv C.2.2.2.2.2.2.2.1.1 hO.1 (ci := 2) (q0 := 0) rfl rfl) rfl hl.1 rfl (Nat.le_of_ble_eq_true rfl) dX2_replay_59 ⟨(Nat.le_of_ble_eq_true rfl), (Nat.le_of_ble_eq_true rfl)⟩ (fun H locs hO => ?_)
          have hO : gO E A s (xW E a (S_spk (S_rp S (flF (s_key S) (s_sto S) x rk (s_n S)) (flF (s_val S) (s_sto S) x rv (s_n S)) k24) ((flF (s_key S) (s_sto S) x rk (s_n S)) k24) ((flF (s_val S) (s_sto S) x rv (s_n S)) k24)) (mk_spk (S_rp S (flF (s_key S) (s_sto S) x rk (s_n S)) (flF (s_val S) (s_sto S) x rv (s_n S)) k24) (mk_rp S (flF (s_key S) (s_sto S) x rk (s_n S)) (flF (s_val S) (s_sto S) x rv (s_n S)) mk k24)) (flF (s_key S) (s_sto S) x rk (s_n S)) (flF (s_val S) (s_sto S) x rv (s_n S)) ++ F) H locs := hO
          refine lv_pop C.1 C.2.1 dX2_replay_62 rfl ?_
          refine gInc (j := k24) (k := 2) (lv' := [(3, .int (nI (k24 + 1))), (0, .ref (a 0)), (2, .int (nI (cnt (s_sto S) x (s_n S))))]) C.1 C.2.1 dX2_replay_63 hl rfl (by decide) rfl (fun ls hl => ?_)
          refine lv_goto (tgt := 41) C.1 C.2.1 dX2_replay_66 (by decide) ?_
          refine W.widen (k := 1) (n := 6) (by omega) (by omega) ?_
          exact ih_lp24 (k24 + 1) (by omega) (by omega) _ _ hO _ (lv_sub hl [1, 2, 0] rfl)
    refine W.widen (k := 1) (n := 6) (by omega) (by omega) ?_
    exact lp24 (cnt (s_sto S) x (s_n S) + 1) 0 (by omega) (Nat.zero_le _) _ _ hO _ (lv_sub hl [2, 1, 0] rfl)
  · have hz9 : ¬ s_on S = 0 := c_2
    exact gThrow (E0 := "java/lang/IllegalStateException") (text := "a storm is on") C hst hO ht hl.1 (by decide +kernel) (C.2.2.2.2.1 (.classLink RX2 54 "java/lang/IllegalStateException") (by decide +kernel)) (C.2.2.2.2.1 (.initialized "java/lang/IllegalStateException") (by decide +kernel)) (C.2.2.2.2.2.2.2.1.2.2.1 (56, "a storm is on") (by decide +kernel)) (vx_hat (fun w hw => C.2.2.2.2.1 w (gwISE w hw)) gNISE (gNb C)) (by decide +kernel) (Or.inr ⟨rfl, hok, hz9⟩) dX2_replay_12 dX2_replay_15 dX2_replay_16 dX2_replay_18 dX2_replay_21 (Nat.le_of_ble_eq_true rfl) (Nat.le_of_ble_eq_true rfl) (Nat.le_of_ble_eq_true rfl) (Nat.le_of_ble_eq_true rfl) (Nat.le_of_ble_eq_true rfl) (Nat.le_of_ble_eq_true rfl) 

set_option maxHeartbeats 4000000 in
set_option maxRecDepth 100000 in
theorem c_X2_compact (l : Launch) (E : gE) (a : Nat → Nat) (S : St) (mk rk rv : Nat → Int32) (F : va_W)  (hI : s_inv S) : gMi l E yX2_compact wsX2_compact ({ frames := 3, cells := 0, slots := 0, locals := 68 }) (xW E a S mk rk rv ++ F) [.ref (a 0)] (nI (s_n S - cpN (s_cm S) (s_n S))) (xW E a (S_drop S (s_cm S)) (mkU (s_cm S) mk (s_n S)) rk rv ++ F) 0 0 := by
  refine gMi.of (cc := cX2_compact) (maxL := 1) (ty := .int) (by decide) rfl (Nat.le_of_ble_eq_true rfl) ?_
  intro p e s m args below meth c A C ls hl hO
  have hl : lv_has ls 1 [(0, .ref (a 0))] := hl
  obtain ⟨hn, hsh, hsc, hOn, hOb, hok9, hpc9, hp0⟩ := hI
  refine lv_aload_n C.1 C.2.1 dX2_compact_0 rfl (lv_at hl 0 rfl) ?_
  refine gCall_v (As := []) (rest := []) C hO (c_X2_markCompacted l E a S mk rk rv F (by omega) (by omega)) (cwV 0 C.2.2.2.2.1 gX2_compact_X2_markCompacted rfl rfl rfl (by decide +kernel) ⟨(Nat.le_of_ble_eq_true rfl), (Nat.le_of_ble_eq_true rfl)⟩) (va_recv C.2.2.2.2.2.2.2.1.1 hO.1 (ci := 2) (q0 := 0) rfl rfl) rfl hl.1 rfl (Nat.le_of_ble_eq_true rfl) dX2_compact_1 ⟨(Nat.le_of_ble_eq_true rfl), (Nat.le_of_ble_eq_true rfl)⟩ (fun H locs hO => ?_)
  have hO : gO E A s (xW E a S (mkU (s_cm S) mk (s_n S)) rk rv ++ F) H locs := hO
  refine lv_aload_n C.1 C.2.1 dX2_compact_4 rfl (lv_at hl 0 rfl) ?_
  refine gCall_i (As := []) (rest := []) C hO (c_X2_dropMarked l E a S (mkU (s_cm S) mk (s_n S)) rk rv F (by omega) (by omega)) (cwV 0 C.2.2.2.2.1 gX2_compact_X2_dropMarked rfl rfl rfl (by decide +kernel) ⟨(Nat.le_of_ble_eq_true rfl), (Nat.le_of_ble_eq_true rfl)⟩) (va_recv C.2.2.2.2.2.2.2.1.1 hO.1 (ci := 2) (q0 := 0) rfl rfl) rfl hl.1 rfl (Nat.le_of_ble_eq_true rfl) dX2_compact_5 ⟨(Nat.le_of_ble_eq_true rfl), (Nat.le_of_ble_eq_true rfl)⟩ (fun H locs hO => ?_)
  have hO : gO E A s (xW E a (S_drop S (mkU (s_cm S) mk (s_n S))) (mkU (s_cm S) mk (s_n S)) rk rv ++ F) H locs := hO
  exact gRi C (by rw [← S_drop_mkU S (s_cm S) mk]; exact hO) rfl (by rw [cpN_mkU]) dX2_compact_8 (Nat.le_of_ble_eq_true rfl) (Nat.le_of_ble_eq_true rfl)

set_option maxHeartbeats 4000000 in
set_option maxRecDepth 100000 in
theorem c_X2_trimTo (l : Launch) (E : gE) (a : Nat → Nat) (S : St) (mk rk rv : Nat → Int32) (F : va_W) (o : Int32) (hst : l.stackTraces = false) (hI : s_inv S) : gXi l E yX2_trimTo wsX2_trimTo ({ frames := 7, cells := 1, slots := 6, locals := 103 }) (xW E a S mk rk rv ++ F) [.ref (a 0), .int o] (okOff S o) (nI (s_n S - cpN (gAhead (s_off S) o) (s_n S))) (xW E a (S_drop S (gAhead (s_off S) o)) (mkU (gAhead (s_off S) o) mk (s_n S)) rk rv ++ F) (fun En => En = xIAE ∧ ¬ okOff S o) 1 6 := by
  refine gXi.of (cc := cX2_trimTo) (maxL := 2) (ty := .int) (by decide) rfl (Nat.le_of_ble_eq_true rfl) ?_
  intro p e s m args below meth c A C ht ls hl hO
  have hl : lv_has ls 2 [(0, .ref (a 0)), (1, .int o)] := hl
  have iX2 : ∀ w ∈ u_ws RX2 TX2 9, w ∈ wsX2_trimTo := by decide +kernel
  have w10 : Cond.fieldLink RX2 10 "ParrotLog" "log" "LParrotLog$Log;" ∈ wsX2_trimTo := by decide +kernel
  obtain ⟨hn, hsh, hsc, hOn, hOb, hok9, hpc9, hp0⟩ := hI
  refine lv_aload_n C.1 C.2.1 dX2_trimTo_0 rfl (lv_at hl 0 rfl) ?_
  refine lv_iload_n C.1 C.2.1 dX2_trimTo_1 rfl (lv_at hl 1 rfl) ?_
  refine gXCall_v (As := [.int o]) (rest := []) C hO (c_X2_checkReachable l E a S mk rk rv F o hst) (cwV 1 C.2.2.2.2.1 gX2_trimTo_X2_checkReachable rfl rfl rfl (by decide +kernel) ⟨(Nat.le_of_ble_eq_true rfl), (Nat.le_of_ble_eq_true rfl)⟩) (va_recv C.2.2.2.2.2.2.2.1.1 hO.1 (ci := 2) (q0 := 0) rfl rfl) rfl hl.1 rfl (Nat.le_of_ble_eq_true rfl) dX2_trimTo_2 ⟨(Nat.le_of_ble_eq_true rfl), (Nat.le_of_ble_eq_true rfl)⟩ (fun E0 ce q9 H locs hO hcell hcv hcl hbad => ?_) (fun H locs hO hok => ?_)
  · exact gXout C hO ht hcell hcv hcl hbad (Nat.le_of_ble_eq_true rfl) (Nat.le_of_ble_eq_true rfl)
  refine lv_aload_n C.1 C.2.1 dX2_trimTo_5 rfl (lv_at hl 0 rfl) ?_
  refine gGet (v := .ref (a 1)) (ref := RX2) (Cn := RX2) (T := TX2) (N := 9) C iX2 hO 0 rfl rfl 0 (by decide) w10 (fun _ h9 => h9) rfl dX2_trimTo_6 ?_
  refine lv_iload_n C.1 C.2.1 dX2_trimTo_9 rfl (lv_at hl 1 rfl) ?_
  refine gCallN_v (As := [.int o]) (rest := []) C hO (c_X0_markAhead l E a S mk rk rv F o (by omega)) ⟨va_cnB (host := RX2) 1 C.2.2.2.2.1 gX2_trimTo_X0_markAhead_n85 rfl rfl rfl (C.2.2.2.2.2.2.2.1.2.1 (.methodLinkNest RX2 85 yX0_markAhead RX2) (by decide +kernel)) (C.2.2.2.2.1 (.initialized RX0) (by decide +kernel)) (by decide +kernel) ⟨(Nat.le_of_ble_eq_true rfl), (Nat.le_of_ble_eq_true rfl)⟩, C.2.2.2.2.1 (.instanceMethod yX0_markAhead) (by decide +kernel), C.2.2.2.2.1 (.selects RX0 yX0_markAhead yX0_markAhead) (by decide +kernel)⟩ (va_recv C.2.2.2.2.2.2.2.1.1 hO.1 (ci := 0) (q0 := 1) rfl rfl) rfl hl.1 rfl (Nat.le_of_ble_eq_true rfl) dX2_trimTo_10 ⟨(Nat.le_of_ble_eq_true rfl), (Nat.le_of_ble_eq_true rfl)⟩ (fun H locs hO => ?_)
  have hO : gO E A s (xW E a S (mkU (gAhead (s_off S) o) mk (s_n S)) rk rv ++ F) H locs := hO
  refine lv_aload_n C.1 C.2.1 dX2_trimTo_13 rfl (lv_at hl 0 rfl) ?_
  refine gCall_i (As := []) (rest := []) C hO (c_X2_dropMarked l E a S (mkU (gAhead (s_off S) o) mk (s_n S)) rk rv F (by omega) (by omega)) (cwV 0 C.2.2.2.2.1 gX2_trimTo_X2_dropMarked rfl rfl rfl (by decide +kernel) ⟨(Nat.le_of_ble_eq_true rfl), (Nat.le_of_ble_eq_true rfl)⟩) (va_recv C.2.2.2.2.2.2.2.1.1 hO.1 (ci := 2) (q0 := 0) rfl rfl) rfl hl.1 rfl (Nat.le_of_ble_eq_true rfl) dX2_trimTo_14 ⟨(Nat.le_of_ble_eq_true rfl), (Nat.le_of_ble_eq_true rfl)⟩ (fun H locs hO => ?_)
  have hO : gO E A s (xW E a (S_drop S (mkU (gAhead (s_off S) o) mk (s_n S))) (mkU (gAhead (s_off S) o) mk (s_n S)) rk rv ++ F) H locs := hO
  exact gXRi C (by rw [← S_drop_mkU S (gAhead (s_off S) o) mk]; exact hO) rfl hok (by rw [cpN_mkU]) dX2_trimTo_17 (Nat.le_of_ble_eq_true rfl) (Nat.le_of_ble_eq_true rfl)

set_option maxHeartbeats 4000000 in
set_option maxRecDepth 100000 in
theorem c_X2_addShip (l : Launch) (E : gE) (a : Nat → Nat) (S : St) (mk rk rv : Nat → Int32) (F : va_W) (q o : Int32) (hst : l.stackTraces = false) (hI : s_inv S) : gXi l E yX2_addShip wsX2_addShip ({ frames := 7, cells := 2, slots := 12, locals := 103 }) (xW E a S mk rk rv ++ F) [.ref (a 0), .int q, .int o] (okPace q ∧ okOff S o ∧ s_sh S < 6) (nI (s_sh S)) (xW E a (S_ship S q o) mk rk rv ++ F) (fun En => (En = xIAE ∧ ¬ (okPace q ∧ okOff S o)) ∨ (En = xISE ∧ okPace q ∧ okOff S o ∧ ¬ s_sh S < 6)) 2 12 := by
  refine gXi.of (cc := cX2_addShip) (maxL := 4) (ty := .int) (by decide) rfl (Nat.le_of_ble_eq_true rfl) ?_
  intro p e s m args below meth c A C ht ls hl hO
  have hl : lv_has ls 4 [(0, .ref (a 0)), (1, .int q), (2, .int o)] := hl
  have iX1 : ∀ w ∈ u_ws RX1 TX1 5, w ∈ wsX2_addShip := by decide +kernel
  have iX2 : ∀ w ∈ u_ws RX2 TX2 9, w ∈ wsX2_addShip := by decide +kernel
  have w90 : Cond.fieldLink RX2 90 "ParrotLog" "shipCount" "I" ∈ wsX2_addShip := by decide +kernel
  have w22 : Cond.fieldLink RX2 22 "ParrotLog" "fleet" "[LParrotLog$Ship;" ∈ wsX2_addShip := by decide +kernel
  have gwIAE : ∀ w ∈ (vx_atS RX2 41 "java/lang/IllegalArgumentException" ["java/lang/RuntimeException", "java/lang/Exception"]).filter goodWord, w ∈ wsX2_addShip := by decide +kernel
  have gNIAE : ∀ w ∈ (vx_atS RX2 41 "java/lang/IllegalArgumentException" ["java/lang/RuntimeException", "java/lang/Exception"]).filter (fun w => !goodWord w), w ∈ eNw := by decide +kernel
  have gwISE : ∀ w ∈ (vx_atS RX2 58 "java/lang/IllegalStateException" ["java/lang/RuntimeException", "java/lang/Exception"]).filter goodWord, w ∈ wsX2_addShip := by decide +kernel
  have gNISE : ∀ w ∈ (vx_atS RX2 58 "java/lang/IllegalStateException" ["java/lang/RuntimeException", "java/lang/Exception"]).filter (fun w => !goodWord w), w ∈ eNw := by decide +kernel
  obtain ⟨hn, hsh, hsc, hOn, hOb, hok9, hpc9, hp0⟩ := hI
  refine lv_iload_n C.1 C.2.1 dX2_addShip_0 rfl (lv_at hl 1 rfl) ?_
  refine lv_iconst (v := 1) C.1 C.2.1 dX2_addShip_1 (by decide) ?_
  refine lv_icmp_lt (tgt := 10) C.1 C.2.1 dX2_addShip_2 (by decide) (fun c_1 => ?_) (fun c_1 => ?_)
  · exact gThrow (E0 := "java/lang/IllegalArgumentException") (text := "pace is not 1 to 5") C hst hO ht hl.1 (by decide +kernel) (C.2.2.2.2.1 (.classLink RX2 37 "java/lang/IllegalArgumentException") (by decide +kernel)) (C.2.2.2.2.1 (.initialized "java/lang/IllegalArgumentException") (by decide +kernel)) (C.2.2.2.2.2.2.2.1.2.2.1 (88, "pace is not 1 to 5") (by decide +kernel)) (vx_hat (fun w hw => C.2.2.2.2.1 w (gwIAE w hw)) gNIAE (gNb C)) (by decide +kernel) (by first | exact Or.inl ⟨rfl, fun g => g.1.1 c_1⟩ | exact Or.inl ⟨rfl, fun g => g.1.2 c_2⟩) dX2_addShip_10 dX2_addShip_13 dX2_addShip_14 dX2_addShip_16 dX2_addShip_19 (Nat.le_of_ble_eq_true rfl) (Nat.le_of_ble_eq_true rfl) (Nat.le_of_ble_eq_true rfl) (Nat.le_of_ble_eq_true rfl) (Nat.le_of_ble_eq_true rfl) (Nat.le_of_ble_eq_true rfl) 
  · refine lv_iload_n C.1 C.2.1 dX2_addShip_5 rfl (lv_at hl 1 rfl) ?_
    refine lv_iconst (v := nI 5) C.1 C.2.1 dX2_addShip_6 (by decide) ?_
    refine gLeI (tgt := 20) C.1 C.2.1 dX2_addShip_7 (by decide) (fun c_2 => ?_) (fun c_2 => ?_)
    · refine lv_aload_n C.1 C.2.1 dX2_addShip_20 rfl (lv_at hl 0 rfl) ?_
      refine lv_iload_n C.1 C.2.1 dX2_addShip_21 rfl (lv_at hl 2 rfl) ?_
      refine gXCall_v (As := [.int o]) (rest := []) C hO (c_X2_checkReachable l E a S mk rk rv F o hst) (cwV 1 C.2.2.2.2.1 gX2_addShip_X2_checkReachable rfl rfl rfl (by decide +kernel) ⟨(Nat.le_of_ble_eq_true rfl), (Nat.le_of_ble_eq_true rfl)⟩) (va_recv C.2.2.2.2.2.2.2.1.1 hO.1 (ci := 2) (q0 := 0) rfl rfl) rfl hl.1 rfl (Nat.le_of_ble_eq_true rfl) dX2_addShip_22 ⟨(Nat.le_of_ble_eq_true rfl), (Nat.le_of_ble_eq_true rfl)⟩ (fun E0 ce q9 H locs hO hcell hcv hcl hbad => ?_) (fun H locs hO hok => ?_)
      · exact gXout C hO ht hcell hcv hcl (Or.inl ⟨hbad.1, fun g => hbad.2 g.2⟩) (Nat.le_of_ble_eq_true rfl) (Nat.le_of_ble_eq_true rfl)
      refine lv_aload_n C.1 C.2.1 dX2_addShip_25 rfl (lv_at hl 0 rfl) ?_
      refine gGet (v := .int (nI (s_sh S))) (ref := RX2) (Cn := RX2) (T := TX2) (N := 9) C iX2 hO 0 rfl rfl 8 (by decide) w90 (fun _ h9 => h9) rfl dX2_addShip_26 ?_
      refine lv_bipush (v := nI 6) C.1 C.2.1 dX2_addShip_29 (by decide) ?_
      refine gLtN (x := (s_sh S)) (y := 6) (tgt := 44) C.1 C.2.1 (by omega) (by omega) dX2_addShip_31 (by decide) (fun c_4 => ?_) (fun c_4 => ?_)
      · have hlt9 : s_sh S < 6 := by omega
        refine lv_aload_n C.1 C.2.1 dX2_addShip_44 rfl (lv_at hl 0 rfl) ?_
        refine gGet (v := .ref (a 8)) (ref := RX2) (Cn := RX2) (T := TX2) (N := 9) C iX2 hO 0 rfl rfl 2 (by decide) w22 (fun _ h9 => h9) rfl dX2_addShip_45 ?_
        refine lv_aload_n C.1 C.2.1 dX2_addShip_48 rfl (lv_at hl 0 rfl) ?_
        refine gGet (v := .int (nI (s_sh S))) (ref := RX2) (Cn := RX2) (T := TX2) (N := 9) C iX2 hO 0 rfl rfl 8 (by decide) w90 (fun _ h9 => h9) rfl dX2_addShip_49 ?_
        refine gAald (v := a (11 + (s_sh S))) (j := (s_sh S)) C hO 8 rfl hlt9 (by decide) (xFl_at hlt9) dX2_addShip_52 ?_
        refine lv_astore_n (lv' := [(3, .ref (a (11 + (s_sh S)))), (0, .ref (a 0)), (1, .int q), (2, .int o)]) C.1 C.2.1 dX2_addShip_53 rfl hl (by decide) rfl (fun ls hl => ?_)
        refine lv_aload_n C.1 C.2.1 dX2_addShip_54 rfl (lv_at hl 0 rfl) ?_
        refine lv_iload_n C.1 C.2.1 dX2_addShip_55 rfl (lv_at hl 2 rfl) ?_
        refine gPutN (ws' := (xW E a (mkS (s_off S) (s_key S) (s_val S) (s_sto S) (s_n S) (s_nx S) (s_dr S) (s_hr S) (s_sc S) (s_on S) (s_said S) (s_sh S) (upd (s_pc S) (s_sh S) q) (s_at S) (s_hd S) (s_ms S) (s_kn S)) mk rk rv ++ F)) (ref := RX1) (Cn := RX1) (T := TX1) (N := 5) (host := RX2) C iX1 tyX1 tyX1_ok nmX1 hO (11 + (s_sh S)) (xw_ship hlt9) rfl 1 (by decide) (by decide +kernel) (fun _ h9 => h9) rfl (by decide +kernel) rfl rfl (Nat.le_of_ble_eq_true rfl) (xs_pc hlt9 _) dX2_addShip_56 (fun H locs hO => ?_)
        refine lv_aload_n C.1 C.2.1 dX2_addShip_59 rfl (lv_at hl 0 rfl) ?_
        refine lv_iload_n C.1 C.2.1 dX2_addShip_60 rfl (lv_at hl 3 rfl) ?_
        refine gPutN (ws' := (xW E a (mkS (s_off S) (s_key S) (s_val S) (s_sto S) (s_n S) (s_nx S) (s_dr S) (s_hr S) (s_sc S) (s_on S) (s_said S) (s_sh S) (upd (s_pc S) (s_sh S) q) (upd (s_at S) (s_sh S) o) (s_hd S) (s_ms S) (s_kn S)) mk rk rv ++ F)) (ref := RX1) (Cn := RX1) (T := TX1) (N := 5) (host := RX2) C iX1 tyX1 tyX1_ok nmX1 hO (11 + (s_sh S)) (xw_ship hlt9) rfl 2 (by decide) (by decide +kernel) (fun _ h9 => h9) rfl (by decide +kernel) rfl rfl (Nat.le_of_ble_eq_true rfl) (xs_at hlt9 _) dX2_addShip_61 (fun H locs hO => ?_)
        refine lv_aload_n C.1 C.2.1 dX2_addShip_64 rfl (lv_at hl 1 rfl) ?_
        refine lv_dup C.1 C.2.1 dX2_addShip_65 rfl ?_
        refine gGet (v := .int (nI (s_sh S))) (ref := RX2) (Cn := RX2) (T := TX2) (N := 9) C iX2 hO 0 rfl rfl 8 (by decide) w90 (fun _ h9 => h9) rfl dX2_addShip_66 ?_
        refine lv_iconst (v := 1) C.1 C.2.1 dX2_addShip_69 (by decide) ?_
        refine gAddN (x := (s_sh S)) (y := 1) C.1 C.2.1 dX2_addShip_70 ?_
        refine gPut (ws' := (xW E a (mkS (s_off S) (s_key S) (s_val S) (s_sto S) (s_n S) (s_nx S) (s_dr S) (s_hr S) (s_sc S) (s_on S) (s_said S) ((s_sh S) + 1) (upd (s_pc S) (s_sh S) q) (upd (s_at S) (s_sh S) o) (s_hd S) (s_ms S) (s_kn S)) mk rk rv ++ F)) (ref := RX2) (Cn := RX2) (T := TX2) (N := 9) C iX2 tyX2 tyX2_ok nmX2 hO 0 rfl rfl 8 (by decide) w90 (fun _ h9 => h9) rfl (by decide +kernel) rfl rfl (Nat.le_of_ble_eq_true rfl) rfl dX2_addShip_71 (fun H locs hO => ?_)
        refine lv_aload_n C.1 C.2.1 dX2_addShip_74 rfl (lv_at hl 1 rfl) ?_
        refine gGet (v := .int (nI ((s_sh S) + 1))) (ref := RX2) (Cn := RX2) (T := TX2) (N := 9) C iX2 hO 0 rfl rfl 8 (by decide) w90 (fun _ h9 => h9) rfl dX2_addShip_75 ?_
        refine lv_iconst (v := 1) C.1 C.2.1 dX2_addShip_78 (by decide) ?_
        refine gSubN (x := ((s_sh S) + 1)) (y := 1) C.1 C.2.1 (by omega) dX2_addShip_79 ?_
        exact gXRi C hO rfl (⟨⟨c_1, c_2⟩, hok, hlt9⟩) rfl dX2_addShip_80 (Nat.le_of_ble_eq_true rfl) (Nat.le_of_ble_eq_true rfl)
      · exact gThrow (E0 := "java/lang/IllegalStateException") (text := "there are 6 ships") C hst hO ht hl.1 (by decide +kernel) (C.2.2.2.2.1 (.classLink RX2 54 "java/lang/IllegalStateException") (by decide +kernel)) (C.2.2.2.2.1 (.initialized "java/lang/IllegalStateException") (by decide +kernel)) (C.2.2.2.2.2.2.2.1.2.2.1 (93, "there are 6 ships") (by decide +kernel)) (vx_hat (fun w hw => C.2.2.2.2.1 w (gwISE w hw)) gNISE (gNb C)) (by decide +kernel) (Or.inr ⟨rfl, ⟨c_1, c_2⟩, hok, by omega⟩) dX2_addShip_34 dX2_addShip_37 dX2_addShip_38 dX2_addShip_40 dX2_addShip_43 (Nat.le_of_ble_eq_true rfl) (Nat.le_of_ble_eq_true rfl) (Nat.le_of_ble_eq_true rfl) (Nat.le_of_ble_eq_true rfl) (Nat.le_of_ble_eq_true rfl) (Nat.le_of_ble_eq_true rfl) 
    · exact gThrow (E0 := "java/lang/IllegalArgumentException") (text := "pace is not 1 to 5") C hst hO ht hl.1 (by decide +kernel) (C.2.2.2.2.1 (.classLink RX2 37 "java/lang/IllegalArgumentException") (by decide +kernel)) (C.2.2.2.2.1 (.initialized "java/lang/IllegalArgumentException") (by decide +kernel)) (C.2.2.2.2.2.2.2.1.2.2.1 (88, "pace is not 1 to 5") (by decide +kernel)) (vx_hat (fun w hw => C.2.2.2.2.1 w (gwIAE w hw)) gNIAE (gNb C)) (by decide +kernel) (by first | exact Or.inl ⟨rfl, fun g => g.1.1 c_1⟩ | exact Or.inl ⟨rfl, fun g => g.1.2 c_2⟩) dX2_addShip_10 dX2_addShip_13 dX2_addShip_14 dX2_addShip_16 dX2_addShip_19 (Nat.le_of_ble_eq_true rfl) (Nat.le_of_ble_eq_true rfl) (Nat.le_of_ble_eq_true rfl) (Nat.le_of_ble_eq_true rfl) (Nat.le_of_ble_eq_true rfl) (Nat.le_of_ble_eq_true rfl) 

set_option maxHeartbeats 4000000 in
set_option maxRecDepth 100000 in
theorem c_X2_seek (l : Launch) (E : gE) (a : Nat → Nat) (S : St) (mk rk rv : Nat → Int32) (F : va_W) (x o : Int32) (hst : l.stackTraces = false) (hI : s_inv S) : gXi l E yX2_seek wsX2_seek ({ frames := 7, cells := 2, slots := 12, locals := 103 }) (xW E a S mk rk rv ++ F) [.ref (a 0), .int x, .int o] (okShip S x ∧ okOff S o) (s_at S x.toNatClampNeg) (xW E a (S_at S (upd (s_at S) x.toNatClampNeg o)) mk rk rv ++ F) (fun En => (En = xIOE ∧ ¬ okShip S x) ∨ (En = xIAE ∧ okShip S x ∧ ¬ okOff S o)) 2 12 := by
  refine gXi.of (cc := cX2_seek) (maxL := 5) (ty := .int) (by decide) rfl (Nat.le_of_ble_eq_true rfl) ?_
  intro p e s m args below meth c A C ht ls hl hO
  have hl : lv_has ls 5 [(0, .ref (a 0)), (1, .int x), (2, .int o)] := hl
  have iX1 : ∀ w ∈ u_ws RX1 TX1 5, w ∈ wsX2_seek := by decide +kernel
  obtain ⟨hn, hsh, hsc, hOn, hOb, hok9, hpc9, hp0⟩ := hI
  refine lv_aload_n C.1 C.2.1 dX2_seek_0 rfl (lv_at hl 0 rfl) ?_
  refine lv_iload_n C.1 C.2.1 dX2_seek_1 rfl (lv_at hl 1 rfl) ?_
  refine gXCall_r (As := [.int x]) (rest := []) C hO (c_X2_shipNumbered l E a S mk rk rv F x hst hsh) (cwV 1 C.2.2.2.2.1 gX2_seek_X2_shipNumbered rfl rfl rfl (by decide +kernel) ⟨(Nat.le_of_ble_eq_true rfl), (Nat.le_of_ble_eq_true rfl)⟩) (va_recv C.2.2.2.2.2.2.2.1.1 hO.1 (ci := 2) (q0 := 0) rfl rfl) rfl hl.1 rfl (Nat.le_of_ble_eq_true rfl) dX2_seek_2 ⟨(Nat.le_of_ble_eq_true rfl), (Nat.le_of_ble_eq_true rfl)⟩ (fun E0 ce q9 H locs hO hcell hcv hcl hbad => ?_) (fun H locs hO hok => ?_)
  · exact gXout C hO ht hcell hcv hcl (Or.inl hbad) (Nat.le_of_ble_eq_true rfl) (Nat.le_of_ble_eq_true rfl)
  have hj9 := okNat (by omega) hok.1 hok.2
  have hi9 : x.toNatClampNeg < 6 := by omega
  refine lv_astore_n (lv' := [(3, .ref (a (11 + x.toNatClampNeg))), (0, .ref (a 0)), (1, .int x), (2, .int o)]) C.1 C.2.1 dX2_seek_5 rfl hl (by decide) rfl (fun ls hl => ?_)
  refine lv_aload_n C.1 C.2.1 dX2_seek_6 rfl (lv_at hl 1 rfl) ?_
  refine lv_iload_n C.1 C.2.1 dX2_seek_7 rfl (lv_at hl 3 rfl) ?_
  refine gXCall_v (As := [.int o]) (rest := []) C hO (c_X2_checkReachable l E a S mk rk rv F o hst) (cwV 1 C.2.2.2.2.1 gX2_seek_X2_checkReachable rfl rfl rfl (by decide +kernel) ⟨(Nat.le_of_ble_eq_true rfl), (Nat.le_of_ble_eq_true rfl)⟩) (va_recv C.2.2.2.2.2.2.2.1.1 hO.1 (ci := 2) (q0 := 0) rfl rfl) rfl hl.1 rfl (Nat.le_of_ble_eq_true rfl) dX2_seek_8 ⟨(Nat.le_of_ble_eq_true rfl), (Nat.le_of_ble_eq_true rfl)⟩ (fun E0 ce q9 H locs hO hcell hcv hcl hbad => ?_) (fun H locs hO hok2 => ?_)
  · exact gXout C hO ht hcell hcv hcl (Or.inr ⟨hbad.1, hok, hbad.2⟩) (Nat.le_of_ble_eq_true rfl) (Nat.le_of_ble_eq_true rfl)
  refine lv_aload_n C.1 C.2.1 dX2_seek_11 rfl (lv_at hl 0 rfl) ?_
  refine gGetN (v := .int ((s_at S) x.toNatClampNeg)) (ref := RX1) (Cn := RX1) (T := TX1) (N := 5) (host := RX2) C iX1 hO (11 + x.toNatClampNeg) (xw_ship hi9) rfl 2 (by decide) (by decide +kernel) (fun _ h9 => h9) rfl dX2_seek_12 ?_
  refine lv_istore (lv' := [(4, .int ((s_at S) x.toNatClampNeg)), (3, .ref (a (11 + x.toNatClampNeg))), (0, .ref (a 0)), (1, .int x), (2, .int o)]) C.1 C.2.1 dX2_seek_15 hl (by decide) rfl (fun ls hl => ?_)
  refine lv_aload_n C.1 C.2.1 dX2_seek_17 rfl (lv_at hl 1 rfl) ?_
  refine lv_iload_n C.1 C.2.1 dX2_seek_18 rfl (lv_at hl 4 rfl) ?_
  refine gPutN (ws' := (xW E a (mkS (s_off S) (s_key S) (s_val S) (s_sto S) (s_n S) (s_nx S) (s_dr S) (s_hr S) (s_sc S) (s_on S) (s_said S) (s_sh S) (s_pc S) (upd (s_at S) x.toNatClampNeg o) (s_hd S) (s_ms S) (s_kn S)) mk rk rv ++ F)) (ref := RX1) (Cn := RX1) (T := TX1) (N := 5) (host := RX2) C iX1 tyX1 tyX1_ok nmX1 hO (11 + x.toNatClampNeg) (xw_ship hi9) rfl 2 (by decide) (by decide +kernel) (fun _ h9 => h9) rfl (by decide +kernel) rfl rfl (Nat.le_of_ble_eq_true rfl) (xs_at hi9 _) dX2_seek_19 (fun H locs hO => ?_)
  refine lv_iload C.1 C.2.1 dX2_seek_22 (lv_at hl 0 rfl) ?_
  exact gXRi C hO rfl (⟨hok, hok2⟩) rfl dX2_seek_24 (Nat.le_of_ble_eq_true rfl) (Nat.le_of_ble_eq_true rfl)

set_option maxHeartbeats 4000000 in
set_option maxRecDepth 100000 in
theorem c_X2_passHours (l : Launch) (E : gE) (a : Nat → Nat) (S : St) (mk rk rv : Nat → Int32) (F : va_W) (h : Int32) (hst : l.stackTraces = false) (hI : s_inv S) : gXi l E yX2_passHours wsX2_passHours ({ frames := 7, cells := 1, slots := 6, locals := 102 }) (xW E a S mk rk rv ++ F) [.ref (a 0), .int h] (okHours h) (nI (s_ph S (h.toNatClampNeg) (s_sh S))) (xW E a (S_pass S h) mk rk rv ++ F) (fun En => En = xIAE ∧ ¬ okHours h) 1 6 := by
  refine gXi.of (cc := cX2_passHours) (maxL := 4) (ty := .int) (by decide) rfl (Nat.le_of_ble_eq_true rfl) ?_
  intro p e s m args below meth c A C ht ls hl hO
  have hl : lv_has ls 4 [(0, .ref (a 0)), (1, .int h)] := hl
  have iX1 : ∀ w ∈ u_ws RX1 TX1 5, w ∈ wsX2_passHours := by decide +kernel
  have iX2 : ∀ w ∈ u_ws RX2 TX2 9, w ∈ wsX2_passHours := by decide +kernel
  have w90 : Cond.fieldLink RX2 90 "ParrotLog" "shipCount" "I" ∈ wsX2_passHours := by decide +kernel
  have w115 : Cond.fieldLink RX2 115 "ParrotLog" "hour" "I" ∈ wsX2_passHours := by decide +kernel
  have w22 : Cond.fieldLink RX2 22 "ParrotLog" "fleet" "[LParrotLog$Ship;" ∈ wsX2_passHours := by decide +kernel
  obtain ⟨hn, hsh, hsc, hOn, hOb, hok9, hpc9, hp0⟩ := hI
  refine lv_iload_n C.1 C.2.1 dX2_passHours_0 rfl (lv_at hl 1 rfl) ?_
  refine gXCallS_v (As := [.int h]) (rest := []) C hO (c_X2_checkHours l E a S mk rk rv F h hst) (cwS 1 C.2.2.2.2.1 gX2_passHours_X2_checkHours rfl rfl rfl (by decide +kernel) ⟨(Nat.le_of_ble_eq_true rfl), (Nat.le_of_ble_eq_true rfl)⟩) rfl hl.1 rfl (Nat.le_of_ble_eq_true rfl) dX2_passHours_1 ⟨(Nat.le_of_ble_eq_true rfl), (Nat.le_of_ble_eq_true rfl)⟩ (fun E0 ce q9 H locs hO hcell hcv hcl hbad => ?_) (fun H locs hO hok => ?_)
  · exact gXout C hO ht hcell hcv hcl hbad (Nat.le_of_ble_eq_true rfl) (Nat.le_of_ble_eq_true rfl)
  have hhn9 := okHours_n hok
  have hl : lv_has ls 4 [(0, .ref (a 0)), (1, .int (nI (h.toNatClampNeg)))] := by rw [← hhn9.2.2]; exact hl
  refine lv_iconst (v := 0) C.1 C.2.1 dX2_passHours_4 (by decide) ?_
  refine lv_istore_n (lv' := [(2, .int 0), (0, .ref (a 0)), (1, .int (nI h.toNatClampNeg))]) C.1 C.2.1 dX2_passHours_5 rfl hl (by decide) rfl (fun ls hl => ?_)
  refine lv_iconst (v := 0) C.1 C.2.1 dX2_passHours_6 (by decide) ?_
  refine lv_istore_n (lv' := [(3, .int 0), (2, .int 0), (0, .ref (a 0)), (1, .int (nI h.toNatClampNeg))]) C.1 C.2.1 dX2_passHours_7 rfl hl (by decide) rfl (fun ls hl => ?_)
  have lp24 : ∀ (f : Nat) (k24 : Nat), (s_sh S + 1 ≤ k24 + f) → (k24 ≤ s_sh S) → ∀ (H : Heap) (locs : List Loc), gO E A s (xW E a (S_ps S (h.toNatClampNeg) k24) mk rk rv ++ F) H locs → ∀ ls : Array Slot, lv_has ls 4 [(0, .ref (a 0)), (1, .int (nI h.toNatClampNeg)), (2, .int (nI (s_ph S (h.toNatClampNeg) k24))), (3, .int (nI k24))] → W p l e ({ frames := 7, cells := 1, slots := 6, locals := 102 } : Room) s m args below meth c H locs 1 6 (vx_MQ below (gXQi E A (okHours h) (nI (s_ph S (h.toNatClampNeg) (s_sh S))) (xW E a (S_pass S h) mk rk rv ++ F)) (gXC E A (fun En => En = xIAE ∧ ¬ okHours h) (xW E a S mk rk rv ++ F)) args s 1 6 A) (F0 m 8 ls []) := by
    intro f
    induction f with
    | zero =>
      intro k24 hf hk24
      exact absurd hf (by omega)
    | succ f ih_lp24 =>
      intro k24 hf hk24 H locs hO ls hl
      obtain ⟨hs1, hs2, hs3, hs4, hs5, hs6, hs7⟩ := S_ps_keep S (h.toNatClampNeg) k24
      refine lv_iload_n C.1 C.2.1 dX2_passHours_8 rfl (lv_at hl 3 rfl) ?_
      refine lv_aload_n C.1 C.2.1 dX2_passHours_9 rfl (lv_at hl 0 rfl) ?_
      refine gGet (v := .int (nI (s_sh (S_ps S (h.toNatClampNeg) k24)))) (ref := RX2) (Cn := RX2) (T := TX2) (N := 9) C iX2 hO 0 rfl rfl 8 (by decide) w90 (fun _ h9 => h9) rfl dX2_passHours_10 ?_
      refine gGeN (x := k24) (y := (s_sh (S_ps S (h.toNatClampNeg) k24))) (tgt := 49) C.1 C.2.1 (by omega) (by omega) dX2_passHours_13 (by decide) (fun c_2 => ?_) (fun c_2 => ?_)
      · have hke9 : k24 = s_sh S := by omega
        rw [hke9] at hO hl
        have hl := lv_sub hl [0, 1, 2] rfl
        have hl : lv_has ls 4 [(0, .ref (a 0)), (1, .int h), (2, .int (nI (s_ph S (h.toNatClampNeg) (s_sh S))))] := (congrArg (fun z24 => lv_has ls 4 [(0, .ref (a 0)), (1, .int z24), (2, .int (nI (s_ph S (h.toNatClampNeg) (s_sh S))))]) hhn9.2.2).mpr hl
        have hs8 := S_ps_hr S (h.toNatClampNeg) (s_sh S)
        obtain ⟨hs1, hs2, hs3, hs4, hs5, hs6, hs7⟩ := S_ps_keep S (h.toNatClampNeg) (s_sh S)
        refine lv_aload_n C.1 C.2.1 dX2_passHours_49 rfl (lv_at hl 0 rfl) ?_
        refine lv_dup C.1 C.2.1 dX2_passHours_50 rfl ?_
        refine gGet (v := .int (s_hr (S_ps S (h.toNatClampNeg) (s_sh S)))) (ref := RX2) (Cn := RX2) (T := TX2) (N := 9) C iX2 hO 0 rfl rfl 5 (by decide) w115 (fun _ h9 => h9) rfl dX2_passHours_51 ?_
        refine lv_iload_n C.1 C.2.1 dX2_passHours_54 rfl (lv_at hl 1 rfl) ?_
        refine lv_iadd C.1 C.2.1 dX2_passHours_55 ?_
        refine gPut (ws' := (xW E a (mkS (s_off (S_ps S (h.toNatClampNeg) (s_sh S))) (s_key (S_ps S (h.toNatClampNeg) (s_sh S))) (s_val (S_ps S (h.toNatClampNeg) (s_sh S))) (s_sto (S_ps S (h.toNatClampNeg) (s_sh S))) (s_n (S_ps S (h.toNatClampNeg) (s_sh S))) (s_nx (S_ps S (h.toNatClampNeg) (s_sh S))) (s_dr (S_ps S (h.toNatClampNeg) (s_sh S))) ((s_hr (S_ps S (h.toNatClampNeg) (s_sh S))) + h) (s_sc (S_ps S (h.toNatClampNeg) (s_sh S))) (s_on (S_ps S (h.toNatClampNeg) (s_sh S))) (s_said (S_ps S (h.toNatClampNeg) (s_sh S))) (s_sh (S_ps S (h.toNatClampNeg) (s_sh S))) (s_pc (S_ps S (h.toNatClampNeg) (s_sh S))) (s_at (S_ps S (h.toNatClampNeg) (s_sh S))) (s_hd (S_ps S (h.toNatClampNeg) (s_sh S))) (s_ms (S_ps S (h.toNatClampNeg) (s_sh S))) (s_kn (S_ps S (h.toNatClampNeg) (s_sh S)))) mk rk rv ++ F)) (ref := RX2) (Cn := RX2) (T := TX2) (N := 9) C iX2 tyX2 tyX2_ok nmX2 hO 0 rfl rfl 5 (by decide) w115 (fun _ h9 => h9) rfl (by decide +kernel) rfl rfl (Nat.le_of_ble_eq_true rfl) rfl dX2_passHours_56 (fun H locs hO => ?_)
        refine lv_iload_n C.1 C.2.1 dX2_passHours_59 rfl (lv_at hl 2 rfl) ?_
        exact gXRi C (by rw [hs8] at hO; exact hO) rfl hok rfl dX2_passHours_60 (Nat.le_of_ble_eq_true rfl) (Nat.le_of_ble_eq_true rfl)
      · have hpT9 : 1 ≤ pN (S_ps S (h.toNatClampNeg) k24) k24 ∧ pN (S_ps S (h.toNatClampNeg) k24) k24 ≤ 5 ∧ s_pc (S_ps S (h.toNatClampNeg) k24) k24 = nI (pN (S_ps S (h.toNatClampNeg) k24) k24) := by unfold pN; rw [hs5]; exact hpc9 k24 (by omega)
        have hokT9 : s_ok (S_ps S (h.toNatClampNeg) k24) := by unfold s_ok; rw [hs2, hs3]; exact hok9
        have hmh9 := mh_le (S := (S_ps S (h.toNatClampNeg) k24)) hhn9.2.1 hpT9.2.1
        refine lv_iload_n C.1 C.2.1 dX2_passHours_16 rfl (lv_at hl 2 rfl) ?_
        refine lv_aload_n C.1 C.2.1 dX2_passHours_17 rfl (lv_at hl 0 rfl) ?_
        refine lv_aload_n C.1 C.2.1 dX2_passHours_18 rfl (lv_at hl 0 rfl) ?_
        refine gGet (v := .ref (a 8)) (ref := RX2) (Cn := RX2) (T := TX2) (N := 9) C iX2 hO 0 rfl rfl 2 (by decide) w22 (fun _ h9 => h9) rfl dX2_passHours_19 ?_
        refine lv_iload_n C.1 C.2.1 dX2_passHours_22 rfl (lv_at hl 3 rfl) ?_
        refine gAald (v := a (11 + k24)) (j := k24) C hO 8 rfl (by omega) (by decide) (xFl_at (by omega)) dX2_passHours_23 ?_
        refine lv_aload_n C.1 C.2.1 dX2_passHours_24 rfl (lv_at hl 0 rfl) ?_
        refine lv_iload_n C.1 C.2.1 dX2_passHours_25 rfl (lv_at hl 1 rfl) ?_
        refine lv_aload_n C.1 C.2.1 dX2_passHours_26 rfl (lv_at hl 0 rfl) ?_
        refine gGet (v := .ref (a 8)) (ref := RX2) (Cn := RX2) (T := TX2) (N := 9) C iX2 hO 0 rfl rfl 2 (by decide) w22 (fun _ h9 => h9) rfl dX2_passHours_27 ?_
        refine lv_iload_n C.1 C.2.1 dX2_passHours_30 rfl (lv_at hl 3 rfl) ?_
        refine gAald (v := a (11 + k24)) (j := k24) C hO 8 rfl (by omega) (by decide) (xFl_at (by omega)) dX2_passHours_31 ?_
        refine gGetN (v := .int ((s_pc (S_ps S (h.toNatClampNeg) k24)) k24)) (ref := RX1) (Cn := RX1) (T := TX1) (N := 5) (host := RX2) C iX1 hO (11 + k24) (xw_ship (by omega)) rfl 1 (by decide) (by decide +kernel) (fun _ h9 => h9) rfl dX2_passHours_32 ?_
        refine lv_eqi (y := nI (pN (S_ps S (h.toNatClampNeg) k24) k24)) hpT9.2.2 ?_
        refine gCall_i (As := [.int (nI h.toNatClampNeg), .int (nI (pN (S_ps S (h.toNatClampNeg) k24) k24))]) (rest := [.ref (a (11 + k24)), .ref (a 0), .int (nI (s_ph S (h.toNatClampNeg) k24))]) C hO (c_X2_mostHeard l E a (S_ps S (h.toNatClampNeg) k24) mk rk rv F h.toNatClampNeg (pN (S_ps S (h.toNatClampNeg) k24) k24)) (cwV 2 C.2.2.2.2.1 gX2_passHours_X2_mostHeard rfl rfl rfl (by decide +kernel) ⟨(Nat.le_of_ble_eq_true rfl), (Nat.le_of_ble_eq_true rfl)⟩) (va_recv C.2.2.2.2.2.2.2.1.1 hO.1 (ci := 2) (q0 := 0) rfl rfl) rfl hl.1 rfl (Nat.le_of_ble_eq_true rfl) dX2_passHours_35 ⟨(Nat.le_of_ble_eq_true rfl), (Nat.le_of_ble_eq_true rfl)⟩ (fun H locs hO => ?_)
        refine gCall_i (As := [.ref (a (11 + k24)), .int (nI (mhN (S_ps S (h.toNatClampNeg) k24) h.toNatClampNeg (pN (S_ps S (h.toNatClampNeg) k24) k24)))]) (rest := [.int (nI (s_ph S (h.toNatClampNeg) k24))]) C hO (c_X2_hearNext l E a (S_ps S (h.toNatClampNeg) k24) mk rk rv F k24 (mhN (S_ps S (h.toNatClampNeg) k24) h.toNatClampNeg (pN (S_ps S (h.toNatClampNeg) k24) k24)) (by omega) (by omega) hokT9 (by omega)) (cwV 2 C.2.2.2.2.1 gX2_passHours_X2_hearNext rfl rfl rfl (by decide +kernel) ⟨(Nat.le_of_ble_eq_true rfl), (Nat.le_of_ble_eq_true rfl)⟩) (va_recv C.2.2.2.2.2.2.2.1.1 hO.1 (ci := 2) (q0 := 0) rfl rfl) rfl hl.1 rfl (Nat.le_of_ble_eq_true rfl) dX2_passHours_38 ⟨(Nat.le_of_ble_eq_true rfl), (Nat.le_of_ble_eq_true rfl)⟩ (fun H locs hO => ?_)
        have hO : gO E A s (xW E a (S_ps S (h.toNatClampNeg) (k24 + 1)) mk rk rv ++ F) H locs := hO
        refine gAddN (x := (s_ph S (h.toNatClampNeg) k24)) (y := (s_dh (S_ps S (h.toNatClampNeg) k24) (h.toNatClampNeg) k24)) C.1 C.2.1 dX2_passHours_41 ?_
        refine lv_istore_n (lv' := [(2, .int (nI ((s_ph S (h.toNatClampNeg) k24) + (s_dh (S_ps S (h.toNatClampNeg) k24) (h.toNatClampNeg) k24)))), (0, .ref (a 0)), (1, .int (nI h.toNatClampNeg)), (3, .int (nI k24))]) C.1 C.2.1 dX2_passHours_42 rfl hl (by decide) rfl (fun ls hl => ?_)
        refine gInc (j := k24) (k := 3) (lv' := [(3, .int (nI (k24 + 1))), (2, .int (nI ((s_ph S (h.toNatClampNeg) k24) + (s_dh (S_ps S (h.toNatClampNeg) k24) (h.toNatClampNeg) k24)))), (0, .ref (a 0)), (1, .int (nI h.toNatClampNeg))]) C.1 C.2.1 dX2_passHours_43 hl rfl (by decide) rfl (fun ls hl => ?_)
        refine lv_goto (tgt := 8) C.1 C.2.1 dX2_passHours_46 (by decide) ?_
        refine W.widen (k := 1) (n := 6) (by omega) (by omega) ?_
        exact ih_lp24 (k24 + 1) (by omega) (by omega) _ _ hO _ (lv_sub hl [2, 3, 1, 0] rfl)
  refine W.widen (k := 1) (n := 6) (by omega) (by omega) ?_
  exact lp24 (s_sh S + 1) 0 (by omega) (Nat.zero_le _) _ _ hO _ (lv_sub hl [2, 3, 1, 0] rfl)
end
section
set_option maxHeartbeats 4000000 in
set_option maxRecDepth 100000 in
theorem c_X2_hours (l : Launch) (E : gE) (a : Nat → Nat) (S : St) (mk rk rv : Nat → Int32) (F : va_W)  (hI : s_inv S) : gMi l E yX2_hours wsX2_hours ({ frames := 0, cells := 0, slots := 0, locals := 0 }) (xW E a S mk rk rv ++ F) [.ref (a 0)] (s_hr S) (xW E a S mk rk rv ++ F) 0 0 := by
  refine gMi.of (cc := cX2_hours) (maxL := 1) (ty := .int) (by decide) rfl (Nat.le_of_ble_eq_true rfl) ?_
  intro p e s m args below meth c A C ls hl hO
  have hl : lv_has ls 1 [(0, .ref (a 0))] := hl
  have iX2 : ∀ w ∈ u_ws RX2 TX2 9, w ∈ wsX2_hours := by decide +kernel
  have w115 : Cond.fieldLink RX2 115 "ParrotLog" "hour" "I" ∈ wsX2_hours := by decide +kernel
  obtain ⟨hn, hsh, hsc, hOn, hOb, hok9, hpc9, hp0⟩ := hI
  refine lv_aload_n C.1 C.2.1 dX2_hours_0 rfl (lv_at hl 0 rfl) ?_
  refine gGet (v := .int (s_hr S)) (ref := RX2) (Cn := RX2) (T := TX2) (N := 9) C iX2 hO 0 rfl rfl 5 (by decide) w115 (fun _ h9 => h9) rfl dX2_hours_1 ?_
  exact gRi C hO rfl rfl dX2_hours_4 (Nat.le_of_ble_eq_true rfl) (Nat.le_of_ble_eq_true rfl)

set_option maxHeartbeats 4000000 in
set_option maxRecDepth 100000 in
theorem c_X2_phrases (l : Launch) (E : gE) (a : Nat → Nat) (S : St) (mk rk rv : Nat → Int32) (F : va_W)  (hI : s_inv S) : gMi l E yX2_phrases wsX2_phrases ({ frames := 0, cells := 0, slots := 0, locals := 0 }) (xW E a S mk rk rv ++ F) [.ref (a 0)] (nI (s_n S)) (xW E a S mk rk rv ++ F) 0 0 := by
  refine gMi.of (cc := cX2_phrases) (maxL := 1) (ty := .int) (by decide) rfl (Nat.le_of_ble_eq_true rfl) ?_
  intro p e s m args below meth c A C ls hl hO
  have hl : lv_has ls 1 [(0, .ref (a 0))] := hl
  have iX0 : ∀ w ∈ u_ws RX0 TX0 8, w ∈ wsX2_phrases := by decide +kernel
  have iX2 : ∀ w ∈ u_ws RX2 TX2 9, w ∈ wsX2_phrases := by decide +kernel
  have w10 : Cond.fieldLink RX2 10 "ParrotLog" "log" "LParrotLog$Log;" ∈ wsX2_phrases := by decide +kernel
  obtain ⟨hn, hsh, hsc, hOn, hOb, hok9, hpc9, hp0⟩ := hI
  refine lv_aload_n C.1 C.2.1 dX2_phrases_0 rfl (lv_at hl 0 rfl) ?_
  refine gGet (v := .ref (a 1)) (ref := RX2) (Cn := RX2) (T := TX2) (N := 9) C iX2 hO 0 rfl rfl 0 (by decide) w10 (fun _ h9 => h9) rfl dX2_phrases_1 ?_
  refine gGetN (v := .int (nI (s_n S))) (ref := RX0) (Cn := RX0) (T := TX0) (N := 8) (host := RX2) C iX0 hO 1 rfl rfl 5 (by decide) (by decide +kernel) (fun _ h9 => h9) rfl dX2_phrases_4 ?_
  exact gRi C hO rfl rfl dX2_phrases_7 (Nat.le_of_ble_eq_true rfl) (Nat.le_of_ble_eq_true rfl)

set_option maxHeartbeats 4000000 in
set_option maxRecDepth 100000 in
theorem c_X2_nextOffset (l : Launch) (E : gE) (a : Nat → Nat) (S : St) (mk rk rv : Nat → Int32) (F : va_W)  (hI : s_inv S) : gMi l E yX2_nextOffset wsX2_nextOffset ({ frames := 0, cells := 0, slots := 0, locals := 0 }) (xW E a S mk rk rv ++ F) [.ref (a 0)] (s_nx S) (xW E a S mk rk rv ++ F) 0 0 := by
  refine gMi.of (cc := cX2_nextOffset) (maxL := 1) (ty := .int) (by decide) rfl (Nat.le_of_ble_eq_true rfl) ?_
  intro p e s m args below meth c A C ls hl hO
  have hl : lv_has ls 1 [(0, .ref (a 0))] := hl
  have iX0 : ∀ w ∈ u_ws RX0 TX0 8, w ∈ wsX2_nextOffset := by decide +kernel
  have iX2 : ∀ w ∈ u_ws RX2 TX2 9, w ∈ wsX2_nextOffset := by decide +kernel
  have w10 : Cond.fieldLink RX2 10 "ParrotLog" "log" "LParrotLog$Log;" ∈ wsX2_nextOffset := by decide +kernel
  obtain ⟨hn, hsh, hsc, hOn, hOb, hok9, hpc9, hp0⟩ := hI
  refine lv_aload_n C.1 C.2.1 dX2_nextOffset_0 rfl (lv_at hl 0 rfl) ?_
  refine gGet (v := .ref (a 1)) (ref := RX2) (Cn := RX2) (T := TX2) (N := 9) C iX2 hO 0 rfl rfl 0 (by decide) w10 (fun _ h9 => h9) rfl dX2_nextOffset_1 ?_
  refine gGetN (v := .int (s_nx S)) (ref := RX0) (Cn := RX0) (T := TX0) (N := 8) (host := RX2) C iX0 hO 1 rfl rfl 6 (by decide) (by decide +kernel) (fun _ h9 => h9) rfl dX2_nextOffset_4 ?_
  exact gRi C hO rfl rfl dX2_nextOffset_7 (Nat.le_of_ble_eq_true rfl) (Nat.le_of_ble_eq_true rfl)

set_option maxHeartbeats 4000000 in
set_option maxRecDepth 100000 in
theorem c_X2_firstOffset (l : Launch) (E : gE) (a : Nat → Nat) (S : St) (mk rk rv : Nat → Int32) (F : va_W)  (hI : s_inv S) : gMi l E yX2_firstOffset wsX2_firstOffset ({ frames := 0, cells := 0, slots := 0, locals := 0 }) (xW E a S mk rk rv ++ F) [.ref (a 0)] (s_first S) (xW E a S mk rk rv ++ F) 0 0 := by
  refine gMi.of (cc := cX2_firstOffset) (maxL := 1) (ty := .int) (by decide) rfl (Nat.le_of_ble_eq_true rfl) ?_
  intro p e s m args below meth c A C ls hl hO
  have hl : lv_has ls 1 [(0, .ref (a 0))] := hl
  have iX0 : ∀ w ∈ u_ws RX0 TX0 8, w ∈ wsX2_firstOffset := by decide +kernel
  have iX2 : ∀ w ∈ u_ws RX2 TX2 9, w ∈ wsX2_firstOffset := by decide +kernel
  have w10 : Cond.fieldLink RX2 10 "ParrotLog" "log" "LParrotLog$Log;" ∈ wsX2_firstOffset := by decide +kernel
  obtain ⟨hn, hsh, hsc, hOn, hOb, hok9, hpc9, hp0⟩ := hI
  refine lv_aload_n C.1 C.2.1 dX2_firstOffset_0 rfl (lv_at hl 0 rfl) ?_
  refine gGet (v := .ref (a 1)) (ref := RX2) (Cn := RX2) (T := TX2) (N := 9) C iX2 hO 0 rfl rfl 0 (by decide) w10 (fun _ h9 => h9) rfl dX2_firstOffset_1 ?_
  refine gGetN (v := .int (nI (s_n S))) (ref := RX0) (Cn := RX0) (T := TX0) (N := 8) (host := RX2) C iX0 hO 1 rfl rfl 5 (by decide) (by decide +kernel) (fun _ h9 => h9) rfl dX2_firstOffset_4 ?_
  refine lv_if_ne (tgt := 14) C.1 C.2.1 dX2_firstOffset_7 (by decide) (fun c_1 => ?_) (fun c_1 => ?_)
  · have hz : ¬ s_n S = 0 := fun g => c_1 (by rw [g]; rfl)
    refine lv_aload_n C.1 C.2.1 dX2_firstOffset_14 rfl (lv_at hl 0 rfl) ?_
    refine gGet (v := .ref (a 1)) (ref := RX2) (Cn := RX2) (T := TX2) (N := 9) C iX2 hO 0 rfl rfl 0 (by decide) w10 (fun _ h9 => h9) rfl dX2_firstOffset_15 ?_
    refine gGetN (v := .ref (a 2)) (ref := RX0) (Cn := RX0) (T := TX0) (N := 8) (host := RX2) C iX0 hO 1 rfl rfl 0 (by decide) (by decide +kernel) (fun _ h9 => h9) rfl dX2_firstOffset_18 ?_
    refine lv_iconst (v := 0) C.1 C.2.1 dX2_firstOffset_21 (by decide) ?_
    refine gIald (v := (s_off S) 0) (j := 0) C hO 2 rfl (by omega) (by decide) rfl dX2_firstOffset_22 ?_
    exact gRi C hO rfl (by first | exact ((if_pos hz).symm) | exact ((if_neg hz).symm)) dX2_firstOffset_23 (Nat.le_of_ble_eq_true rfl) (Nat.le_of_ble_eq_true rfl)
  · have hz : s_n S = 0 := nI_z (by omega) c_1
    refine lv_iconst (v := (-1)) C.1 C.2.1 dX2_firstOffset_10 (by decide) ?_
    refine lv_goto (tgt := 23) C.1 C.2.1 dX2_firstOffset_11 (by decide) ?_
    exact gRi C hO rfl (by first | exact ((if_pos hz).symm) | exact ((if_neg hz).symm)) dX2_firstOffset_23 (Nat.le_of_ble_eq_true rfl) (Nat.le_of_ble_eq_true rfl)

set_option maxHeartbeats 4000000 in
set_option maxRecDepth 100000 in
theorem c_X2_dropped (l : Launch) (E : gE) (a : Nat → Nat) (S : St) (mk rk rv : Nat → Int32) (F : va_W)  (hI : s_inv S) : gMi l E yX2_dropped wsX2_dropped ({ frames := 0, cells := 0, slots := 0, locals := 0 }) (xW E a S mk rk rv ++ F) [.ref (a 0)] (s_dr S) (xW E a S mk rk rv ++ F) 0 0 := by
  refine gMi.of (cc := cX2_dropped) (maxL := 1) (ty := .int) (by decide) rfl (Nat.le_of_ble_eq_true rfl) ?_
  intro p e s m args below meth c A C ls hl hO
  have hl : lv_has ls 1 [(0, .ref (a 0))] := hl
  have iX0 : ∀ w ∈ u_ws RX0 TX0 8, w ∈ wsX2_dropped := by decide +kernel
  have iX2 : ∀ w ∈ u_ws RX2 TX2 9, w ∈ wsX2_dropped := by decide +kernel
  have w10 : Cond.fieldLink RX2 10 "ParrotLog" "log" "LParrotLog$Log;" ∈ wsX2_dropped := by decide +kernel
  obtain ⟨hn, hsh, hsc, hOn, hOb, hok9, hpc9, hp0⟩ := hI
  refine lv_aload_n C.1 C.2.1 dX2_dropped_0 rfl (lv_at hl 0 rfl) ?_
  refine gGet (v := .ref (a 1)) (ref := RX2) (Cn := RX2) (T := TX2) (N := 9) C iX2 hO 0 rfl rfl 0 (by decide) w10 (fun _ h9 => h9) rfl dX2_dropped_1 ?_
  refine gGetN (v := .int (s_dr S)) (ref := RX0) (Cn := RX0) (T := TX0) (N := 8) (host := RX2) C iX0 hO 1 rfl rfl 7 (by decide) (by decide +kernel) (fun _ h9 => h9) rfl dX2_dropped_4 ?_
  exact gRi C hO rfl rfl dX2_dropped_7 (Nat.le_of_ble_eq_true rfl) (Nat.le_of_ble_eq_true rfl)

set_option maxHeartbeats 4000000 in
set_option maxRecDepth 100000 in
theorem c_X2_isKept (l : Launch) (E : gE) (a : Nat → Nat) (S : St) (mk rk rv : Nat → Int32) (F : va_W) (o : Int32) (hI : s_inv S) : gMi l E yX2_isKept wsX2_isKept ({ frames := 2, cells := 0, slots := 0, locals := 44 }) (xW E a S mk rk rv ++ F) [.ref (a 0), .int o] (if s_po S o = none then 0 else 1) (xW E a S mk rk rv ++ F) 0 0 := by
  refine gMi.of (cc := cX2_isKept) (maxL := 2) (ty := .boolean) (by decide) rfl (Nat.le_of_ble_eq_true rfl) ?_
  intro p e s m args below meth c A C ls hl hO
  have hl : lv_has ls 2 [(0, .ref (a 0)), (1, .int o)] := hl
  have iX2 : ∀ w ∈ u_ws RX2 TX2 9, w ∈ wsX2_isKept := by decide +kernel
  have w10 : Cond.fieldLink RX2 10 "ParrotLog" "log" "LParrotLog$Log;" ∈ wsX2_isKept := by decide +kernel
  obtain ⟨hn, hsh, hsc, hOn, hOb, hok9, hpc9, hp0⟩ := hI
  refine lv_aload_n C.1 C.2.1 dX2_isKept_0 rfl (lv_at hl 0 rfl) ?_
  refine gGet (v := .ref (a 1)) (ref := RX2) (Cn := RX2) (T := TX2) (N := 9) C iX2 hO 0 rfl rfl 0 (by decide) w10 (fun _ h9 => h9) rfl dX2_isKept_1 ?_
  refine lv_iload_n C.1 C.2.1 dX2_isKept_4 rfl (lv_at hl 1 rfl) ?_
  refine gCallN_i (As := [.int o]) (rest := []) C hO (c_X0_positionOf l E a S mk rk rv F o (by omega)) ⟨va_cnB (host := RX2) 1 C.2.2.2.2.1 gX2_isKept_X0_positionOf_n130 rfl rfl rfl (C.2.2.2.2.2.2.2.1.2.1 (.methodLinkNest RX2 130 yX0_positionOf RX2) (by decide +kernel)) (C.2.2.2.2.1 (.initialized RX0) (by decide +kernel)) (by decide +kernel) ⟨(Nat.le_of_ble_eq_true rfl), (Nat.le_of_ble_eq_true rfl)⟩, C.2.2.2.2.1 (.instanceMethod yX0_positionOf) (by decide +kernel), C.2.2.2.2.1 (.selects RX0 yX0_positionOf yX0_positionOf) (by decide +kernel)⟩ (va_recv C.2.2.2.2.2.2.2.1.1 hO.1 (ci := 0) (q0 := 1) rfl rfl) rfl hl.1 rfl (Nat.le_of_ble_eq_true rfl) dX2_isKept_5 ⟨(Nat.le_of_ble_eq_true rfl), (Nat.le_of_ble_eq_true rfl)⟩ (fun H locs hO => ?_)
  refine lv_iconst (v := (-1)) C.1 C.2.1 dX2_isKept_8 (by decide) ?_
  refine lv_icmp_eq (tgt := 16) C.1 C.2.1 dX2_isKept_9 (by decide) (fun c_1 => ?_) (fun c_1 => ?_)
  · have hz : s_po S o = none := (oI_ne (fun i hi => by have := s_po_lt hi; omega)).mp c_1
    refine lv_iconst (v := 0) C.1 C.2.1 dX2_isKept_16 (by decide) ?_
    exact gRi C hO rfl (by first | exact ((if_pos hz).symm) | exact ((if_neg hz).symm)) dX2_isKept_17 (Nat.le_of_ble_eq_true rfl) (Nat.le_of_ble_eq_true rfl)
  · have hz : ¬ s_po S o = none := fun g => c_1 (by rw [g]; rfl)
    refine lv_iconst (v := 1) C.1 C.2.1 dX2_isKept_12 (by decide) ?_
    refine lv_goto (tgt := 17) C.1 C.2.1 dX2_isKept_13 (by decide) ?_
    exact gRi C hO rfl (by first | exact ((if_pos hz).symm) | exact ((if_neg hz).symm)) dX2_isKept_17 (Nat.le_of_ble_eq_true rfl) (Nat.le_of_ble_eq_true rfl)

set_option maxHeartbeats 4000000 in
set_option maxRecDepth 100000 in
theorem c_X2_keyAt (l : Launch) (E : gE) (a : Nat → Nat) (S : St) (mk rk rv : Nat → Int32) (F : va_W) (o : Int32) (hst : l.stackTraces = false) (hI : s_inv S) : gXi l E yX2_keyAt wsX2_keyAt ({ frames := 7, cells := 1, slots := 6, locals := 104 }) (xW E a S mk rk rv ++ F) [.ref (a 0), .int o] (s_po S o ≠ none) (s_ka S (s_key S) o) (xW E a S mk rk rv ++ F) (fun En => En = xIOE ∧ s_po S o = none) 1 6 := by
  refine gXi.of (cc := cX2_keyAt) (maxL := 2) (ty := .int) (by decide) rfl (Nat.le_of_ble_eq_true rfl) ?_
  intro p e s m args below meth c A C ht ls hl hO
  have hl : lv_has ls 2 [(0, .ref (a 0)), (1, .int o)] := hl
  have iX0 : ∀ w ∈ u_ws RX0 TX0 8, w ∈ wsX2_keyAt := by decide +kernel
  have iX2 : ∀ w ∈ u_ws RX2 TX2 9, w ∈ wsX2_keyAt := by decide +kernel
  have w10 : Cond.fieldLink RX2 10 "ParrotLog" "log" "LParrotLog$Log;" ∈ wsX2_keyAt := by decide +kernel
  obtain ⟨hn, hsh, hsc, hOn, hOb, hok9, hpc9, hp0⟩ := hI
  refine lv_aload_n C.1 C.2.1 dX2_keyAt_0 rfl (lv_at hl 0 rfl) ?_
  refine gGet (v := .ref (a 1)) (ref := RX2) (Cn := RX2) (T := TX2) (N := 9) C iX2 hO 0 rfl rfl 0 (by decide) w10 (fun _ h9 => h9) rfl dX2_keyAt_1 ?_
  refine gGetN (v := .ref (a 3)) (ref := RX0) (Cn := RX0) (T := TX0) (N := 8) (host := RX2) C iX0 hO 1 rfl rfl 1 (by decide) (by decide +kernel) (fun _ h9 => h9) rfl dX2_keyAt_4 ?_
  refine lv_aload_n C.1 C.2.1 dX2_keyAt_7 rfl (lv_at hl 0 rfl) ?_
  refine lv_iload_n C.1 C.2.1 dX2_keyAt_8 rfl (lv_at hl 1 rfl) ?_
  refine gXCall_i (As := [.int o]) (rest := [.ref (a 3)]) C hO (c_X2_keptPosition l E a S mk rk rv F o hst (by omega)) (cwV 1 C.2.2.2.2.1 gX2_keyAt_X2_keptPosition rfl rfl rfl (by decide +kernel) ⟨(Nat.le_of_ble_eq_true rfl), (Nat.le_of_ble_eq_true rfl)⟩) (va_recv C.2.2.2.2.2.2.2.1.1 hO.1 (ci := 2) (q0 := 0) rfl rfl) rfl hl.1 rfl (Nat.le_of_ble_eq_true rfl) dX2_keyAt_9 ⟨(Nat.le_of_ble_eq_true rfl), (Nat.le_of_ble_eq_true rfl)⟩ (fun E0 ce q9 H locs hO hcell hcv hcl hbad => ?_) (fun H locs hO hok => ?_)
  · exact gXout C hO ht hcell hcv hcl hbad (Nat.le_of_ble_eq_true rfl) (Nat.le_of_ble_eq_true rfl)
  obtain ⟨i24, hz, hi8⟩ := s_po_ne hok
  refine lv_eqi (y := nI i24) (by rw [hz]; rfl) ?_
  refine gIald (v := (s_key S) i24) (j := i24) C hO 3 rfl (by omega) (by decide) rfl dX2_keyAt_12 ?_
  exact gXRi C hO rfl hok (by unfold s_ka; rw [hz]) dX2_keyAt_13 (Nat.le_of_ble_eq_true rfl) (Nat.le_of_ble_eq_true rfl)

set_option maxHeartbeats 4000000 in
set_option maxRecDepth 100000 in
theorem c_X2_valueAt (l : Launch) (E : gE) (a : Nat → Nat) (S : St) (mk rk rv : Nat → Int32) (F : va_W) (o : Int32) (hst : l.stackTraces = false) (hI : s_inv S) : gXi l E yX2_valueAt wsX2_valueAt ({ frames := 7, cells := 1, slots := 6, locals := 104 }) (xW E a S mk rk rv ++ F) [.ref (a 0), .int o] (s_po S o ≠ none) (s_ka S (s_val S) o) (xW E a S mk rk rv ++ F) (fun En => En = xIOE ∧ s_po S o = none) 1 6 := by
  refine gXi.of (cc := cX2_valueAt) (maxL := 2) (ty := .int) (by decide) rfl (Nat.le_of_ble_eq_true rfl) ?_
  intro p e s m args below meth c A C ht ls hl hO
  have hl : lv_has ls 2 [(0, .ref (a 0)), (1, .int o)] := hl
  have iX0 : ∀ w ∈ u_ws RX0 TX0 8, w ∈ wsX2_valueAt := by decide +kernel
  have iX2 : ∀ w ∈ u_ws RX2 TX2 9, w ∈ wsX2_valueAt := by decide +kernel
  have w10 : Cond.fieldLink RX2 10 "ParrotLog" "log" "LParrotLog$Log;" ∈ wsX2_valueAt := by decide +kernel
  obtain ⟨hn, hsh, hsc, hOn, hOb, hok9, hpc9, hp0⟩ := hI
  refine lv_aload_n C.1 C.2.1 dX2_valueAt_0 rfl (lv_at hl 0 rfl) ?_
  refine gGet (v := .ref (a 1)) (ref := RX2) (Cn := RX2) (T := TX2) (N := 9) C iX2 hO 0 rfl rfl 0 (by decide) w10 (fun _ h9 => h9) rfl dX2_valueAt_1 ?_
  refine gGetN (v := .ref (a 4)) (ref := RX0) (Cn := RX0) (T := TX0) (N := 8) (host := RX2) C iX0 hO 1 rfl rfl 2 (by decide) (by decide +kernel) (fun _ h9 => h9) rfl dX2_valueAt_4 ?_
  refine lv_aload_n C.1 C.2.1 dX2_valueAt_7 rfl (lv_at hl 0 rfl) ?_
  refine lv_iload_n C.1 C.2.1 dX2_valueAt_8 rfl (lv_at hl 1 rfl) ?_
  refine gXCall_i (As := [.int o]) (rest := [.ref (a 4)]) C hO (c_X2_keptPosition l E a S mk rk rv F o hst (by omega)) (cwV 1 C.2.2.2.2.1 gX2_valueAt_X2_keptPosition rfl rfl rfl (by decide +kernel) ⟨(Nat.le_of_ble_eq_true rfl), (Nat.le_of_ble_eq_true rfl)⟩) (va_recv C.2.2.2.2.2.2.2.1.1 hO.1 (ci := 2) (q0 := 0) rfl rfl) rfl hl.1 rfl (Nat.le_of_ble_eq_true rfl) dX2_valueAt_9 ⟨(Nat.le_of_ble_eq_true rfl), (Nat.le_of_ble_eq_true rfl)⟩ (fun E0 ce q9 H locs hO hcell hcv hcl hbad => ?_) (fun H locs hO hok => ?_)
  · exact gXout C hO ht hcell hcv hcl hbad (Nat.le_of_ble_eq_true rfl) (Nat.le_of_ble_eq_true rfl)
  obtain ⟨i24, hz, hi8⟩ := s_po_ne hok
  refine lv_eqi (y := nI i24) (by rw [hz]; rfl) ?_
  refine gIald (v := (s_val S) i24) (j := i24) C hO 4 rfl (by omega) (by decide) rfl dX2_valueAt_12 ?_
  exact gXRi C hO rfl hok (by unfold s_ka; rw [hz]) dX2_valueAt_13 (Nat.le_of_ble_eq_true rfl) (Nat.le_of_ble_eq_true rfl)

set_option maxHeartbeats 4000000 in
set_option maxRecDepth 100000 in
theorem c_X2_stormAt (l : Launch) (E : gE) (a : Nat → Nat) (S : St) (mk rk rv : Nat → Int32) (F : va_W) (o : Int32) (hst : l.stackTraces = false) (hI : s_inv S) : gXi l E yX2_stormAt wsX2_stormAt ({ frames := 7, cells := 1, slots := 6, locals := 104 }) (xW E a S mk rk rv ++ F) [.ref (a 0), .int o] (s_po S o ≠ none) (s_ka S (s_sto S) o) (xW E a S mk rk rv ++ F) (fun En => En = xIOE ∧ s_po S o = none) 1 6 := by
  refine gXi.of (cc := cX2_stormAt) (maxL := 2) (ty := .int) (by decide) rfl (Nat.le_of_ble_eq_true rfl) ?_
  intro p e s m args below meth c A C ht ls hl hO
  have hl : lv_has ls 2 [(0, .ref (a 0)), (1, .int o)] := hl
  have iX0 : ∀ w ∈ u_ws RX0 TX0 8, w ∈ wsX2_stormAt := by decide +kernel
  have iX2 : ∀ w ∈ u_ws RX2 TX2 9, w ∈ wsX2_stormAt := by decide +kernel
  have w10 : Cond.fieldLink RX2 10 "ParrotLog" "log" "LParrotLog$Log;" ∈ wsX2_stormAt := by decide +kernel
  obtain ⟨hn, hsh, hsc, hOn, hOb, hok9, hpc9, hp0⟩ := hI
  refine lv_aload_n C.1 C.2.1 dX2_stormAt_0 rfl (lv_at hl 0 rfl) ?_
  refine gGet (v := .ref (a 1)) (ref := RX2) (Cn := RX2) (T := TX2) (N := 9) C iX2 hO 0 rfl rfl 0 (by decide) w10 (fun _ h9 => h9) rfl dX2_stormAt_1 ?_
  refine gGetN (v := .ref (a 5)) (ref := RX0) (Cn := RX0) (T := TX0) (N := 8) (host := RX2) C iX0 hO 1 rfl rfl 3 (by decide) (by decide +kernel) (fun _ h9 => h9) rfl dX2_stormAt_4 ?_
  refine lv_aload_n C.1 C.2.1 dX2_stormAt_7 rfl (lv_at hl 0 rfl) ?_
  refine lv_iload_n C.1 C.2.1 dX2_stormAt_8 rfl (lv_at hl 1 rfl) ?_
  refine gXCall_i (As := [.int o]) (rest := [.ref (a 5)]) C hO (c_X2_keptPosition l E a S mk rk rv F o hst (by omega)) (cwV 1 C.2.2.2.2.1 gX2_stormAt_X2_keptPosition rfl rfl rfl (by decide +kernel) ⟨(Nat.le_of_ble_eq_true rfl), (Nat.le_of_ble_eq_true rfl)⟩) (va_recv C.2.2.2.2.2.2.2.1.1 hO.1 (ci := 2) (q0 := 0) rfl rfl) rfl hl.1 rfl (Nat.le_of_ble_eq_true rfl) dX2_stormAt_9 ⟨(Nat.le_of_ble_eq_true rfl), (Nat.le_of_ble_eq_true rfl)⟩ (fun E0 ce q9 H locs hO hcell hcv hcl hbad => ?_) (fun H locs hO hok => ?_)
  · exact gXout C hO ht hcell hcv hcl hbad (Nat.le_of_ble_eq_true rfl) (Nat.le_of_ble_eq_true rfl)
  obtain ⟨i24, hz, hi8⟩ := s_po_ne hok
  refine lv_eqi (y := nI i24) (by rw [hz]; rfl) ?_
  refine gIald (v := (s_sto S) i24) (j := i24) C hO 5 rfl (by omega) (by decide) rfl dX2_stormAt_12 ?_
  exact gXRi C hO rfl hok (by unfold s_ka; rw [hz]) dX2_stormAt_13 (Nat.le_of_ble_eq_true rfl) (Nat.le_of_ble_eq_true rfl)

set_option maxHeartbeats 4000000 in
set_option maxRecDepth 100000 in
theorem c_X2_latestOf (l : Launch) (E : gE) (a : Nat → Nat) (S : St) (mk rk rv : Nat → Int32) (F : va_W) (k : Int32) (hst : l.stackTraces = false) (hI : s_inv S) : gXi l E yX2_latestOf wsX2_latestOf ({ frames := 7, cells := 1, slots := 6, locals := 102 }) (xW E a S mk rk rv ++ F) [.ref (a 0), .int k] (okKey k) (s_lo S k) (xW E a S mk rk rv ++ F) (fun En => En = xIOE ∧ ¬ okKey k) 1 6 := by
  refine gXi.of (cc := cX2_latestOf) (maxL := 2) (ty := .int) (by decide) rfl (Nat.le_of_ble_eq_true rfl) ?_
  intro p e s m args below meth c A C ht ls hl hO
  have hl : lv_has ls 2 [(0, .ref (a 0)), (1, .int k)] := hl
  have iX2 : ∀ w ∈ u_ws RX2 TX2 9, w ∈ wsX2_latestOf := by decide +kernel
  have w10 : Cond.fieldLink RX2 10 "ParrotLog" "log" "LParrotLog$Log;" ∈ wsX2_latestOf := by decide +kernel
  obtain ⟨hn, hsh, hsc, hOn, hOb, hok9, hpc9, hp0⟩ := hI
  refine lv_iload_n C.1 C.2.1 dX2_latestOf_0 rfl (lv_at hl 1 rfl) ?_
  refine gXCallS_v (As := [.int k]) (rest := []) C hO (c_X2_checkKey l E a S mk rk rv F k hst) (cwS 1 C.2.2.2.2.1 gX2_latestOf_X2_checkKey rfl rfl rfl (by decide +kernel) ⟨(Nat.le_of_ble_eq_true rfl), (Nat.le_of_ble_eq_true rfl)⟩) rfl hl.1 rfl (Nat.le_of_ble_eq_true rfl) dX2_latestOf_1 ⟨(Nat.le_of_ble_eq_true rfl), (Nat.le_of_ble_eq_true rfl)⟩ (fun E0 ce q9 H locs hO hcell hcv hcl hbad => ?_) (fun H locs hO hok => ?_)
  · exact gXout C hO ht hcell hcv hcl hbad (Nat.le_of_ble_eq_true rfl) (Nat.le_of_ble_eq_true rfl)
  refine lv_aload_n C.1 C.2.1 dX2_latestOf_4 rfl (lv_at hl 0 rfl) ?_
  refine gGet (v := .ref (a 1)) (ref := RX2) (Cn := RX2) (T := TX2) (N := 9) C iX2 hO 0 rfl rfl 0 (by decide) w10 (fun _ h9 => h9) rfl dX2_latestOf_5 ?_
  refine lv_iload_n C.1 C.2.1 dX2_latestOf_8 rfl (lv_at hl 1 rfl) ?_
  refine gCallN_i (As := [.int k]) (rest := []) C hO (c_X0_latestOffset l E a S mk rk rv F k (by omega)) ⟨va_cnB (host := RX2) 1 C.2.2.2.2.1 gX2_latestOf_X0_latestOffset_n149 rfl rfl rfl (C.2.2.2.2.2.2.2.1.2.1 (.methodLinkNest RX2 149 yX0_latestOffset RX2) (by decide +kernel)) (C.2.2.2.2.1 (.initialized RX0) (by decide +kernel)) (by decide +kernel) ⟨(Nat.le_of_ble_eq_true rfl), (Nat.le_of_ble_eq_true rfl)⟩, C.2.2.2.2.1 (.instanceMethod yX0_latestOffset) (by decide +kernel), C.2.2.2.2.1 (.selects RX0 yX0_latestOffset yX0_latestOffset) (by decide +kernel)⟩ (va_recv C.2.2.2.2.2.2.2.1.1 hO.1 (ci := 0) (q0 := 1) rfl rfl) rfl hl.1 rfl (Nat.le_of_ble_eq_true rfl) dX2_latestOf_9 ⟨(Nat.le_of_ble_eq_true rfl), (Nat.le_of_ble_eq_true rfl)⟩ (fun H locs hO => ?_)
  exact gXRi C hO rfl hok rfl dX2_latestOf_12 (Nat.le_of_ble_eq_true rfl) (Nat.le_of_ble_eq_true rfl)

set_option maxHeartbeats 4000000 in
set_option maxRecDepth 100000 in
theorem c_X2_valueOf (l : Launch) (E : gE) (a : Nat → Nat) (S : St) (mk rk rv : Nat → Int32) (F : va_W) (k : Int32) (hst : l.stackTraces = false) (hI : s_inv S) : gXi l E yX2_valueOf wsX2_valueOf ({ frames := 7, cells := 1, slots := 6, locals := 102 }) (xW E a S mk rk rv ++ F) [.ref (a 0), .int k] (okKey k) (s_wv S k) (xW E a S mk rk rv ++ F) (fun En => En = xIOE ∧ ¬ okKey k) 1 6 := by
  refine gXi.of (cc := cX2_valueOf) (maxL := 2) (ty := .int) (by decide) rfl (Nat.le_of_ble_eq_true rfl) ?_
  intro p e s m args below meth c A C ht ls hl hO
  have hl : lv_has ls 2 [(0, .ref (a 0)), (1, .int k)] := hl
  have iX2 : ∀ w ∈ u_ws RX2 TX2 9, w ∈ wsX2_valueOf := by decide +kernel
  have w10 : Cond.fieldLink RX2 10 "ParrotLog" "log" "LParrotLog$Log;" ∈ wsX2_valueOf := by decide +kernel
  obtain ⟨hn, hsh, hsc, hOn, hOb, hok9, hpc9, hp0⟩ := hI
  refine lv_iload_n C.1 C.2.1 dX2_valueOf_0 rfl (lv_at hl 1 rfl) ?_
  refine gXCallS_v (As := [.int k]) (rest := []) C hO (c_X2_checkKey l E a S mk rk rv F k hst) (cwS 1 C.2.2.2.2.1 gX2_valueOf_X2_checkKey rfl rfl rfl (by decide +kernel) ⟨(Nat.le_of_ble_eq_true rfl), (Nat.le_of_ble_eq_true rfl)⟩) rfl hl.1 rfl (Nat.le_of_ble_eq_true rfl) dX2_valueOf_1 ⟨(Nat.le_of_ble_eq_true rfl), (Nat.le_of_ble_eq_true rfl)⟩ (fun E0 ce q9 H locs hO hcell hcv hcl hbad => ?_) (fun H locs hO hok => ?_)
  · exact gXout C hO ht hcell hcv hcl hbad (Nat.le_of_ble_eq_true rfl) (Nat.le_of_ble_eq_true rfl)
  refine lv_aload_n C.1 C.2.1 dX2_valueOf_4 rfl (lv_at hl 0 rfl) ?_
  refine gGet (v := .ref (a 1)) (ref := RX2) (Cn := RX2) (T := TX2) (N := 9) C iX2 hO 0 rfl rfl 0 (by decide) w10 (fun _ h9 => h9) rfl dX2_valueOf_5 ?_
  refine lv_iload_n C.1 C.2.1 dX2_valueOf_8 rfl (lv_at hl 1 rfl) ?_
  refine gCallN_i (As := [.int k]) (rest := []) C hO (c_X0_latestValue l E a S mk rk rv F k (by omega)) ⟨va_cnB (host := RX2) 1 C.2.2.2.2.1 gX2_valueOf_X0_latestValue_n152 rfl rfl rfl (C.2.2.2.2.2.2.2.1.2.1 (.methodLinkNest RX2 152 yX0_latestValue RX2) (by decide +kernel)) (C.2.2.2.2.1 (.initialized RX0) (by decide +kernel)) (by decide +kernel) ⟨(Nat.le_of_ble_eq_true rfl), (Nat.le_of_ble_eq_true rfl)⟩, C.2.2.2.2.1 (.instanceMethod yX0_latestValue) (by decide +kernel), C.2.2.2.2.1 (.selects RX0 yX0_latestValue yX0_latestValue) (by decide +kernel)⟩ (va_recv C.2.2.2.2.2.2.2.1.1 hO.1 (ci := 0) (q0 := 1) rfl rfl) rfl hl.1 rfl (Nat.le_of_ble_eq_true rfl) dX2_valueOf_9 ⟨(Nat.le_of_ble_eq_true rfl), (Nat.le_of_ble_eq_true rfl)⟩ (fun H locs hO => ?_)
  exact gXRi C hO rfl hok rfl dX2_valueOf_12 (Nat.le_of_ble_eq_true rfl) (Nat.le_of_ble_eq_true rfl)

set_option maxHeartbeats 4000000 in
set_option maxRecDepth 100000 in
theorem c_X2_countOf (l : Launch) (E : gE) (a : Nat → Nat) (S : St) (mk rk rv : Nat → Int32) (F : va_W) (k : Int32) (hst : l.stackTraces = false) (hI : s_inv S) : gXi l E yX2_countOf wsX2_countOf ({ frames := 7, cells := 1, slots := 6, locals := 102 }) (xW E a S mk rk rv ++ F) [.ref (a 0), .int k] (okKey k) (nI (cnt (s_key S) k (s_n S))) (xW E a S mk rk rv ++ F) (fun En => En = xIOE ∧ ¬ okKey k) 1 6 := by
  refine gXi.of (cc := cX2_countOf) (maxL := 2) (ty := .int) (by decide) rfl (Nat.le_of_ble_eq_true rfl) ?_
  intro p e s m args below meth c A C ht ls hl hO
  have hl : lv_has ls 2 [(0, .ref (a 0)), (1, .int k)] := hl
  have iX2 : ∀ w ∈ u_ws RX2 TX2 9, w ∈ wsX2_countOf := by decide +kernel
  have w10 : Cond.fieldLink RX2 10 "ParrotLog" "log" "LParrotLog$Log;" ∈ wsX2_countOf := by decide +kernel
  obtain ⟨hn, hsh, hsc, hOn, hOb, hok9, hpc9, hp0⟩ := hI
  refine lv_iload_n C.1 C.2.1 dX2_countOf_0 rfl (lv_at hl 1 rfl) ?_
  refine gXCallS_v (As := [.int k]) (rest := []) C hO (c_X2_checkKey l E a S mk rk rv F k hst) (cwS 1 C.2.2.2.2.1 gX2_countOf_X2_checkKey rfl rfl rfl (by decide +kernel) ⟨(Nat.le_of_ble_eq_true rfl), (Nat.le_of_ble_eq_true rfl)⟩) rfl hl.1 rfl (Nat.le_of_ble_eq_true rfl) dX2_countOf_1 ⟨(Nat.le_of_ble_eq_true rfl), (Nat.le_of_ble_eq_true rfl)⟩ (fun E0 ce q9 H locs hO hcell hcv hcl hbad => ?_) (fun H locs hO hok => ?_)
  · exact gXout C hO ht hcell hcv hcl hbad (Nat.le_of_ble_eq_true rfl) (Nat.le_of_ble_eq_true rfl)
  refine lv_aload_n C.1 C.2.1 dX2_countOf_4 rfl (lv_at hl 0 rfl) ?_
  refine gGet (v := .ref (a 1)) (ref := RX2) (Cn := RX2) (T := TX2) (N := 9) C iX2 hO 0 rfl rfl 0 (by decide) w10 (fun _ h9 => h9) rfl dX2_countOf_5 ?_
  refine lv_iload_n C.1 C.2.1 dX2_countOf_8 rfl (lv_at hl 1 rfl) ?_
  refine gCallN_i (As := [.int k]) (rest := []) C hO (c_X0_countKey l E a S mk rk rv F k (by omega)) ⟨va_cnB (host := RX2) 1 C.2.2.2.2.1 gX2_countOf_X0_countKey_n155 rfl rfl rfl (C.2.2.2.2.2.2.2.1.2.1 (.methodLinkNest RX2 155 yX0_countKey RX2) (by decide +kernel)) (C.2.2.2.2.1 (.initialized RX0) (by decide +kernel)) (by decide +kernel) ⟨(Nat.le_of_ble_eq_true rfl), (Nat.le_of_ble_eq_true rfl)⟩, C.2.2.2.2.1 (.instanceMethod yX0_countKey) (by decide +kernel), C.2.2.2.2.1 (.selects RX0 yX0_countKey yX0_countKey) (by decide +kernel)⟩ (va_recv C.2.2.2.2.2.2.2.1.1 hO.1 (ci := 0) (q0 := 1) rfl rfl) rfl hl.1 rfl (Nat.le_of_ble_eq_true rfl) dX2_countOf_9 ⟨(Nat.le_of_ble_eq_true rfl), (Nat.le_of_ble_eq_true rfl)⟩ (fun H locs hO => ?_)
  exact gXRi C hO rfl hok rfl dX2_countOf_12 (Nat.le_of_ble_eq_true rfl) (Nat.le_of_ble_eq_true rfl)

set_option maxHeartbeats 4000000 in
set_option maxRecDepth 100000 in
theorem c_X2_storms (l : Launch) (E : gE) (a : Nat → Nat) (S : St) (mk rk rv : Nat → Int32) (F : va_W)  (hI : s_inv S) : gMi l E yX2_storms wsX2_storms ({ frames := 0, cells := 0, slots := 0, locals := 0 }) (xW E a S mk rk rv ++ F) [.ref (a 0)] (nI (s_sc S)) (xW E a S mk rk rv ++ F) 0 0 := by
  refine gMi.of (cc := cX2_storms) (maxL := 1) (ty := .int) (by decide) rfl (Nat.le_of_ble_eq_true rfl) ?_
  intro p e s m args below meth c A C ls hl hO
  have hl : lv_has ls 1 [(0, .ref (a 0))] := hl
  have iX2 : ∀ w ∈ u_ws RX2 TX2 9, w ∈ wsX2_storms := by decide +kernel
  have w59 : Cond.fieldLink RX2 59 "ParrotLog" "stormCount" "I" ∈ wsX2_storms := by decide +kernel
  obtain ⟨hn, hsh, hsc, hOn, hOb, hok9, hpc9, hp0⟩ := hI
  refine lv_aload_n C.1 C.2.1 dX2_storms_0 rfl (lv_at hl 0 rfl) ?_
  refine gGet (v := .int (nI (s_sc S))) (ref := RX2) (Cn := RX2) (T := TX2) (N := 9) C iX2 hO 0 rfl rfl 6 (by decide) w59 (fun _ h9 => h9) rfl dX2_storms_1 ?_
  exact gRi C hO rfl rfl dX2_storms_4 (Nat.le_of_ble_eq_true rfl) (Nat.le_of_ble_eq_true rfl)

set_option maxHeartbeats 4000000 in
set_option maxRecDepth 100000 in
theorem c_X2_isStormy (l : Launch) (E : gE) (a : Nat → Nat) (S : St) (mk rk rv : Nat → Int32) (F : va_W)  (hI : s_inv S) : gMi l E yX2_isStormy wsX2_isStormy ({ frames := 0, cells := 0, slots := 0, locals := 0 }) (xW E a S mk rk rv ++ F) [.ref (a 0)] (s_on S) (xW E a S mk rk rv ++ F) 0 0 := by
  refine gMi.of (cc := cX2_isStormy) (maxL := 1) (ty := .boolean) (by decide) rfl (Nat.le_of_ble_eq_true rfl) ?_
  intro p e s m args below meth c A C ls hl hO
  have hl : lv_has ls 1 [(0, .ref (a 0))] := hl
  have iX2 : ∀ w ∈ u_ws RX2 TX2 9, w ∈ wsX2_isStormy := by decide +kernel
  have w50 : Cond.fieldLink RX2 50 "ParrotLog" "stormOn" "Z" ∈ wsX2_isStormy := by decide +kernel
  obtain ⟨hn, hsh, hsc, hOn, hOb, hok9, hpc9, hp0⟩ := hI
  refine lv_aload_n C.1 C.2.1 dX2_isStormy_0 rfl (lv_at hl 0 rfl) ?_
  refine gGet (v := .int (s_on S)) (ref := RX2) (Cn := RX2) (T := TX2) (N := 9) C iX2 hO 0 rfl rfl 7 (by decide) w50 (fun _ h9 => h9) rfl dX2_isStormy_1 ?_
  exact gRi C hO (by rcases hOb with g | g <;> rw [g] <;> rfl) rfl dX2_isStormy_4 (Nat.le_of_ble_eq_true rfl) (Nat.le_of_ble_eq_true rfl)

set_option maxHeartbeats 4000000 in
set_option maxRecDepth 100000 in
theorem c_X2_saidIn (l : Launch) (E : gE) (a : Nat → Nat) (S : St) (mk rk rv : Nat → Int32) (F : va_W) (x : Int32) (hst : l.stackTraces = false) (hI : s_inv S) : gXi l E yX2_saidIn wsX2_saidIn ({ frames := 7, cells := 1, slots := 6, locals := 103 }) (xW E a S mk rk rv ++ F) [.ref (a 0), .int x] (okStorm S x) (s_said S x.toNatClampNeg) (xW E a S mk rk rv ++ F) (fun En => En = xIOE ∧ ¬ okStorm S x) 1 6 := by
  refine gXi.of (cc := cX2_saidIn) (maxL := 2) (ty := .int) (by decide) rfl (Nat.le_of_ble_eq_true rfl) ?_
  intro p e s m args below meth c A C ht ls hl hO
  have hl : lv_has ls 2 [(0, .ref (a 0)), (1, .int x)] := hl
  have iX2 : ∀ w ∈ u_ws RX2 TX2 9, w ∈ wsX2_saidIn := by decide +kernel
  have w16 : Cond.fieldLink RX2 16 "ParrotLog" "saidInStorm" "[I" ∈ wsX2_saidIn := by decide +kernel
  obtain ⟨hn, hsh, hsc, hOn, hOb, hok9, hpc9, hp0⟩ := hI
  refine lv_aload_n C.1 C.2.1 dX2_saidIn_0 rfl (lv_at hl 0 rfl) ?_
  refine lv_iload_n C.1 C.2.1 dX2_saidIn_1 rfl (lv_at hl 1 rfl) ?_
  refine gXCall_v (As := [.int x]) (rest := []) C hO (c_X2_checkStorm l E a S mk rk rv F x hst) (cwV 1 C.2.2.2.2.1 gX2_saidIn_X2_checkStorm rfl rfl rfl (by decide +kernel) ⟨(Nat.le_of_ble_eq_true rfl), (Nat.le_of_ble_eq_true rfl)⟩) (va_recv C.2.2.2.2.2.2.2.1.1 hO.1 (ci := 2) (q0 := 0) rfl rfl) rfl hl.1 rfl (Nat.le_of_ble_eq_true rfl) dX2_saidIn_2 ⟨(Nat.le_of_ble_eq_true rfl), (Nat.le_of_ble_eq_true rfl)⟩ (fun E0 ce q9 H locs hO hcell hcv hcl hbad => ?_) (fun H locs hO hok => ?_)
  · exact gXout C hO ht hcell hcv hcl hbad (Nat.le_of_ble_eq_true rfl) (Nat.le_of_ble_eq_true rfl)
  refine lv_aload_n C.1 C.2.1 dX2_saidIn_5 rfl (lv_at hl 0 rfl) ?_
  refine gGet (v := .ref (a 7)) (ref := RX2) (Cn := RX2) (T := TX2) (N := 9) C iX2 hO 0 rfl rfl 1 (by decide) w16 (fun _ h9 => h9) rfl dX2_saidIn_6 ?_
  refine lv_iload_n C.1 C.2.1 dX2_saidIn_9 rfl (lv_at hl 1 rfl) ?_
  have hj9 := okNat (by omega) hok.1 hok.2
  refine lv_eqi (y := nI x.toNatClampNeg) hj9.2 ?_
  refine gIald (v := (s_said S) x.toNatClampNeg) (j := x.toNatClampNeg) C hO 7 rfl (by omega) (by decide) rfl dX2_saidIn_10 ?_
  exact gXRi C hO rfl hok rfl dX2_saidIn_11 (Nat.le_of_ble_eq_true rfl) (Nat.le_of_ble_eq_true rfl)

set_option maxHeartbeats 4000000 in
set_option maxRecDepth 100000 in
theorem c_X2_keptOf (l : Launch) (E : gE) (a : Nat → Nat) (S : St) (mk rk rv : Nat → Int32) (F : va_W) (x : Int32) (hst : l.stackTraces = false) (hI : s_inv S) : gXi l E yX2_keptOf wsX2_keptOf ({ frames := 7, cells := 1, slots := 6, locals := 103 }) (xW E a S mk rk rv ++ F) [.ref (a 0), .int x] (okStorm S x) (nI (cnt (s_sto S) x (s_n S))) (xW E a S mk rk rv ++ F) (fun En => En = xIOE ∧ ¬ okStorm S x) 1 6 := by
  refine gXi.of (cc := cX2_keptOf) (maxL := 2) (ty := .int) (by decide) rfl (Nat.le_of_ble_eq_true rfl) ?_
  intro p e s m args below meth c A C ht ls hl hO
  have hl : lv_has ls 2 [(0, .ref (a 0)), (1, .int x)] := hl
  have iX2 : ∀ w ∈ u_ws RX2 TX2 9, w ∈ wsX2_keptOf := by decide +kernel
  have w10 : Cond.fieldLink RX2 10 "ParrotLog" "log" "LParrotLog$Log;" ∈ wsX2_keptOf := by decide +kernel
  obtain ⟨hn, hsh, hsc, hOn, hOb, hok9, hpc9, hp0⟩ := hI
  refine lv_aload_n C.1 C.2.1 dX2_keptOf_0 rfl (lv_at hl 0 rfl) ?_
  refine lv_iload_n C.1 C.2.1 dX2_keptOf_1 rfl (lv_at hl 1 rfl) ?_
  refine gXCall_v (As := [.int x]) (rest := []) C hO (c_X2_checkStorm l E a S mk rk rv F x hst) (cwV 1 C.2.2.2.2.1 gX2_keptOf_X2_checkStorm rfl rfl rfl (by decide +kernel) ⟨(Nat.le_of_ble_eq_true rfl), (Nat.le_of_ble_eq_true rfl)⟩) (va_recv C.2.2.2.2.2.2.2.1.1 hO.1 (ci := 2) (q0 := 0) rfl rfl) rfl hl.1 rfl (Nat.le_of_ble_eq_true rfl) dX2_keptOf_2 ⟨(Nat.le_of_ble_eq_true rfl), (Nat.le_of_ble_eq_true rfl)⟩ (fun E0 ce q9 H locs hO hcell hcv hcl hbad => ?_) (fun H locs hO hok => ?_)
  · exact gXout C hO ht hcell hcv hcl hbad (Nat.le_of_ble_eq_true rfl) (Nat.le_of_ble_eq_true rfl)
  refine lv_aload_n C.1 C.2.1 dX2_keptOf_5 rfl (lv_at hl 0 rfl) ?_
  refine gGet (v := .ref (a 1)) (ref := RX2) (Cn := RX2) (T := TX2) (N := 9) C iX2 hO 0 rfl rfl 0 (by decide) w10 (fun _ h9 => h9) rfl dX2_keptOf_6 ?_
  refine lv_iload_n C.1 C.2.1 dX2_keptOf_9 rfl (lv_at hl 1 rfl) ?_
  refine gCallN_i (As := [.int x]) (rest := []) C hO (c_X0_countStorm l E a S mk rk rv F x (by omega)) ⟨va_cnB (host := RX2) 1 C.2.2.2.2.1 gX2_keptOf_X0_countStorm_n158 rfl rfl rfl (C.2.2.2.2.2.2.2.1.2.1 (.methodLinkNest RX2 158 yX0_countStorm RX2) (by decide +kernel)) (C.2.2.2.2.1 (.initialized RX0) (by decide +kernel)) (by decide +kernel) ⟨(Nat.le_of_ble_eq_true rfl), (Nat.le_of_ble_eq_true rfl)⟩, C.2.2.2.2.1 (.instanceMethod yX0_countStorm) (by decide +kernel), C.2.2.2.2.1 (.selects RX0 yX0_countStorm yX0_countStorm) (by decide +kernel)⟩ (va_recv C.2.2.2.2.2.2.2.1.1 hO.1 (ci := 0) (q0 := 1) rfl rfl) rfl hl.1 rfl (Nat.le_of_ble_eq_true rfl) dX2_keptOf_10 ⟨(Nat.le_of_ble_eq_true rfl), (Nat.le_of_ble_eq_true rfl)⟩ (fun H locs hO => ?_)
  exact gXRi C hO rfl hok rfl dX2_keptOf_13 (Nat.le_of_ble_eq_true rfl) (Nat.le_of_ble_eq_true rfl)

set_option maxHeartbeats 4000000 in
set_option maxRecDepth 100000 in
theorem c_X2_ships (l : Launch) (E : gE) (a : Nat → Nat) (S : St) (mk rk rv : Nat → Int32) (F : va_W)  (hI : s_inv S) : gMi l E yX2_ships wsX2_ships ({ frames := 0, cells := 0, slots := 0, locals := 0 }) (xW E a S mk rk rv ++ F) [.ref (a 0)] (nI (s_sh S)) (xW E a S mk rk rv ++ F) 0 0 := by
  refine gMi.of (cc := cX2_ships) (maxL := 1) (ty := .int) (by decide) rfl (Nat.le_of_ble_eq_true rfl) ?_
  intro p e s m args below meth c A C ls hl hO
  have hl : lv_has ls 1 [(0, .ref (a 0))] := hl
  have iX2 : ∀ w ∈ u_ws RX2 TX2 9, w ∈ wsX2_ships := by decide +kernel
  have w90 : Cond.fieldLink RX2 90 "ParrotLog" "shipCount" "I" ∈ wsX2_ships := by decide +kernel
  obtain ⟨hn, hsh, hsc, hOn, hOb, hok9, hpc9, hp0⟩ := hI
  refine lv_aload_n C.1 C.2.1 dX2_ships_0 rfl (lv_at hl 0 rfl) ?_
  refine gGet (v := .int (nI (s_sh S))) (ref := RX2) (Cn := RX2) (T := TX2) (N := 9) C iX2 hO 0 rfl rfl 8 (by decide) w90 (fun _ h9 => h9) rfl dX2_ships_1 ?_
  exact gRi C hO rfl rfl dX2_ships_4 (Nat.le_of_ble_eq_true rfl) (Nat.le_of_ble_eq_true rfl)

set_option maxHeartbeats 4000000 in
set_option maxRecDepth 100000 in
theorem c_X2_offsetOf (l : Launch) (E : gE) (a : Nat → Nat) (S : St) (mk rk rv : Nat → Int32) (F : va_W) (x : Int32) (hst : l.stackTraces = false) (hI : s_inv S) : gXi l E yX2_offsetOf wsX2_offsetOf ({ frames := 7, cells := 1, slots := 6, locals := 103 }) (xW E a S mk rk rv ++ F) [.ref (a 0), .int x] (okShip S x) (s_at S x.toNatClampNeg) (xW E a S mk rk rv ++ F) (fun En => En = xIOE ∧ ¬ okShip S x) 1 6 := by
  refine gXi.of (cc := cX2_offsetOf) (maxL := 2) (ty := .int) (by decide) rfl (Nat.le_of_ble_eq_true rfl) ?_
  intro p e s m args below meth c A C ht ls hl hO
  have hl : lv_has ls 2 [(0, .ref (a 0)), (1, .int x)] := hl
  have iX1 : ∀ w ∈ u_ws RX1 TX1 5, w ∈ wsX2_offsetOf := by decide +kernel
  obtain ⟨hn, hsh, hsc, hOn, hOb, hok9, hpc9, hp0⟩ := hI
  refine lv_aload_n C.1 C.2.1 dX2_offsetOf_0 rfl (lv_at hl 0 rfl) ?_
  refine lv_iload_n C.1 C.2.1 dX2_offsetOf_1 rfl (lv_at hl 1 rfl) ?_
  refine gXCall_r (As := [.int x]) (rest := []) C hO (c_X2_shipNumbered l E a S mk rk rv F x hst hsh) (cwV 1 C.2.2.2.2.1 gX2_offsetOf_X2_shipNumbered rfl rfl rfl (by decide +kernel) ⟨(Nat.le_of_ble_eq_true rfl), (Nat.le_of_ble_eq_true rfl)⟩) (va_recv C.2.2.2.2.2.2.2.1.1 hO.1 (ci := 2) (q0 := 0) rfl rfl) rfl hl.1 rfl (Nat.le_of_ble_eq_true rfl) dX2_offsetOf_2 ⟨(Nat.le_of_ble_eq_true rfl), (Nat.le_of_ble_eq_true rfl)⟩ (fun E0 ce q9 H locs hO hcell hcv hcl hbad => ?_) (fun H locs hO hok => ?_)
  · exact gXout C hO ht hcell hcv hcl hbad (Nat.le_of_ble_eq_true rfl) (Nat.le_of_ble_eq_true rfl)
  have hj9 := okNat (by omega) hok.1 hok.2
  have hi9 : x.toNatClampNeg < 6 := by omega
  refine gGetN (v := .int ((s_at S) x.toNatClampNeg)) (ref := RX1) (Cn := RX1) (T := TX1) (N := 5) (host := RX2) C iX1 hO (11 + x.toNatClampNeg) (xw_ship hi9) rfl 2 (by decide) (by decide +kernel) (fun _ h9 => h9) rfl dX2_offsetOf_5 ?_
  exact gXRi C hO rfl hok rfl dX2_offsetOf_8 (Nat.le_of_ble_eq_true rfl) (Nat.le_of_ble_eq_true rfl)

set_option maxHeartbeats 4000000 in
set_option maxRecDepth 100000 in
theorem c_X2_lagOf (l : Launch) (E : gE) (a : Nat → Nat) (S : St) (mk rk rv : Nat → Int32) (F : va_W) (x : Int32) (hst : l.stackTraces = false) (hI : s_inv S) : gXi l E yX2_lagOf wsX2_lagOf ({ frames := 7, cells := 1, slots := 6, locals := 103 }) (xW E a S mk rk rv ++ F) [.ref (a 0), .int x] (okShip S x) (nI (s_lag S x.toNatClampNeg)) (xW E a S mk rk rv ++ F) (fun En => En = xIOE ∧ ¬ okShip S x) 1 6 := by
  refine gXi.of (cc := cX2_lagOf) (maxL := 2) (ty := .int) (by decide) rfl (Nat.le_of_ble_eq_true rfl) ?_
  intro p e s m args below meth c A C ht ls hl hO
  have hl : lv_has ls 2 [(0, .ref (a 0)), (1, .int x)] := hl
  obtain ⟨hn, hsh, hsc, hOn, hOb, hok9, hpc9, hp0⟩ := hI
  refine lv_aload_n C.1 C.2.1 dX2_lagOf_0 rfl (lv_at hl 0 rfl) ?_
  refine lv_aload_n C.1 C.2.1 dX2_lagOf_1 rfl (lv_at hl 0 rfl) ?_
  refine lv_iload_n C.1 C.2.1 dX2_lagOf_2 rfl (lv_at hl 1 rfl) ?_
  refine gXCall_r (As := [.int x]) (rest := [.ref (a 0)]) C hO (c_X2_shipNumbered l E a S mk rk rv F x hst hsh) (cwV 1 C.2.2.2.2.1 gX2_lagOf_X2_shipNumbered rfl rfl rfl (by decide +kernel) ⟨(Nat.le_of_ble_eq_true rfl), (Nat.le_of_ble_eq_true rfl)⟩) (va_recv C.2.2.2.2.2.2.2.1.1 hO.1 (ci := 2) (q0 := 0) rfl rfl) rfl hl.1 rfl (Nat.le_of_ble_eq_true rfl) dX2_lagOf_3 ⟨(Nat.le_of_ble_eq_true rfl), (Nat.le_of_ble_eq_true rfl)⟩ (fun E0 ce q9 H locs hO hcell hcv hcl hbad => ?_) (fun H locs hO hok => ?_)
  · exact gXout C hO ht hcell hcv hcl hbad (Nat.le_of_ble_eq_true rfl) (Nat.le_of_ble_eq_true rfl)
  have hj9 := okNat (by omega) hok.1 hok.2
  have hi9 : x.toNatClampNeg < 6 := by omega
  refine gCall_i (As := [.ref (a (11 + x.toNatClampNeg))]) (rest := []) C hO (c_X2_lag l E a S mk rk rv F x.toNatClampNeg (by omega) hi9) (cwV 1 C.2.2.2.2.1 gX2_lagOf_X2_lag rfl rfl rfl (by decide +kernel) ⟨(Nat.le_of_ble_eq_true rfl), (Nat.le_of_ble_eq_true rfl)⟩) (va_recv C.2.2.2.2.2.2.2.1.1 hO.1 (ci := 2) (q0 := 0) rfl rfl) rfl hl.1 rfl (Nat.le_of_ble_eq_true rfl) dX2_lagOf_6 ⟨(Nat.le_of_ble_eq_true rfl), (Nat.le_of_ble_eq_true rfl)⟩ (fun H locs hO => ?_)
  exact gXRi C hO rfl hok rfl dX2_lagOf_9 (Nat.le_of_ble_eq_true rfl) (Nat.le_of_ble_eq_true rfl)

set_option maxHeartbeats 4000000 in
set_option maxRecDepth 100000 in
theorem c_X2_heardBy (l : Launch) (E : gE) (a : Nat → Nat) (S : St) (mk rk rv : Nat → Int32) (F : va_W) (x : Int32) (hst : l.stackTraces = false) (hI : s_inv S) : gXi l E yX2_heardBy wsX2_heardBy ({ frames := 7, cells := 1, slots := 6, locals := 103 }) (xW E a S mk rk rv ++ F) [.ref (a 0), .int x] (okShip S x) (s_hd S x.toNatClampNeg) (xW E a S mk rk rv ++ F) (fun En => En = xIOE ∧ ¬ okShip S x) 1 6 := by
  refine gXi.of (cc := cX2_heardBy) (maxL := 2) (ty := .int) (by decide) rfl (Nat.le_of_ble_eq_true rfl) ?_
  intro p e s m args below meth c A C ht ls hl hO
  have hl : lv_has ls 2 [(0, .ref (a 0)), (1, .int x)] := hl
  have iX1 : ∀ w ∈ u_ws RX1 TX1 5, w ∈ wsX2_heardBy := by decide +kernel
  obtain ⟨hn, hsh, hsc, hOn, hOb, hok9, hpc9, hp0⟩ := hI
  refine lv_aload_n C.1 C.2.1 dX2_heardBy_0 rfl (lv_at hl 0 rfl) ?_
  refine lv_iload_n C.1 C.2.1 dX2_heardBy_1 rfl (lv_at hl 1 rfl) ?_
  refine gXCall_r (As := [.int x]) (rest := []) C hO (c_X2_shipNumbered l E a S mk rk rv F x hst hsh) (cwV 1 C.2.2.2.2.1 gX2_heardBy_X2_shipNumbered rfl rfl rfl (by decide +kernel) ⟨(Nat.le_of_ble_eq_true rfl), (Nat.le_of_ble_eq_true rfl)⟩) (va_recv C.2.2.2.2.2.2.2.1.1 hO.1 (ci := 2) (q0 := 0) rfl rfl) rfl hl.1 rfl (Nat.le_of_ble_eq_true rfl) dX2_heardBy_2 ⟨(Nat.le_of_ble_eq_true rfl), (Nat.le_of_ble_eq_true rfl)⟩ (fun E0 ce q9 H locs hO hcell hcv hcl hbad => ?_) (fun H locs hO hok => ?_)
  · exact gXout C hO ht hcell hcv hcl hbad (Nat.le_of_ble_eq_true rfl) (Nat.le_of_ble_eq_true rfl)
  have hj9 := okNat (by omega) hok.1 hok.2
  have hi9 : x.toNatClampNeg < 6 := by omega
  refine gGetN (v := .int ((s_hd S) x.toNatClampNeg)) (ref := RX1) (Cn := RX1) (T := TX1) (N := 5) (host := RX2) C iX1 hO (11 + x.toNatClampNeg) (xw_ship hi9) rfl 3 (by decide) (by decide +kernel) (fun _ h9 => h9) rfl dX2_heardBy_5 ?_
  exact gXRi C hO rfl hok rfl dX2_heardBy_8 (Nat.le_of_ble_eq_true rfl) (Nat.le_of_ble_eq_true rfl)

set_option maxHeartbeats 4000000 in
set_option maxRecDepth 100000 in
theorem c_X2_missedBy (l : Launch) (E : gE) (a : Nat → Nat) (S : St) (mk rk rv : Nat → Int32) (F : va_W) (x : Int32) (hst : l.stackTraces = false) (hI : s_inv S) : gXi l E yX2_missedBy wsX2_missedBy ({ frames := 7, cells := 1, slots := 6, locals := 103 }) (xW E a S mk rk rv ++ F) [.ref (a 0), .int x] (okShip S x) (s_ms S x.toNatClampNeg) (xW E a S mk rk rv ++ F) (fun En => En = xIOE ∧ ¬ okShip S x) 1 6 := by
  refine gXi.of (cc := cX2_missedBy) (maxL := 2) (ty := .int) (by decide) rfl (Nat.le_of_ble_eq_true rfl) ?_
  intro p e s m args below meth c A C ht ls hl hO
  have hl : lv_has ls 2 [(0, .ref (a 0)), (1, .int x)] := hl
  have iX1 : ∀ w ∈ u_ws RX1 TX1 5, w ∈ wsX2_missedBy := by decide +kernel
  obtain ⟨hn, hsh, hsc, hOn, hOb, hok9, hpc9, hp0⟩ := hI
  refine lv_aload_n C.1 C.2.1 dX2_missedBy_0 rfl (lv_at hl 0 rfl) ?_
  refine lv_iload_n C.1 C.2.1 dX2_missedBy_1 rfl (lv_at hl 1 rfl) ?_
  refine gXCall_r (As := [.int x]) (rest := []) C hO (c_X2_shipNumbered l E a S mk rk rv F x hst hsh) (cwV 1 C.2.2.2.2.1 gX2_missedBy_X2_shipNumbered rfl rfl rfl (by decide +kernel) ⟨(Nat.le_of_ble_eq_true rfl), (Nat.le_of_ble_eq_true rfl)⟩) (va_recv C.2.2.2.2.2.2.2.1.1 hO.1 (ci := 2) (q0 := 0) rfl rfl) rfl hl.1 rfl (Nat.le_of_ble_eq_true rfl) dX2_missedBy_2 ⟨(Nat.le_of_ble_eq_true rfl), (Nat.le_of_ble_eq_true rfl)⟩ (fun E0 ce q9 H locs hO hcell hcv hcl hbad => ?_) (fun H locs hO hok => ?_)
  · exact gXout C hO ht hcell hcv hcl hbad (Nat.le_of_ble_eq_true rfl) (Nat.le_of_ble_eq_true rfl)
  have hj9 := okNat (by omega) hok.1 hok.2
  have hi9 : x.toNatClampNeg < 6 := by omega
  refine gGetN (v := .int ((s_ms S) x.toNatClampNeg)) (ref := RX1) (Cn := RX1) (T := TX1) (N := 5) (host := RX2) C iX1 hO (11 + x.toNatClampNeg) (xw_ship hi9) rfl 4 (by decide) (by decide +kernel) (fun _ h9 => h9) rfl dX2_missedBy_5 ?_
  exact gXRi C hO rfl hok rfl dX2_missedBy_8 (Nat.le_of_ble_eq_true rfl) (Nat.le_of_ble_eq_true rfl)

set_option maxHeartbeats 4000000 in
set_option maxRecDepth 100000 in
theorem c_X2_knownBy (l : Launch) (E : gE) (a : Nat → Nat) (S : St) (mk rk rv : Nat → Int32) (F : va_W) (x k : Int32) (hst : l.stackTraces = false) (hI : s_inv S) : gXi l E yX2_knownBy wsX2_knownBy ({ frames := 7, cells := 2, slots := 12, locals := 103 }) (xW E a S mk rk rv ++ F) [.ref (a 0), .int x, .int k] (okShip S x ∧ okKey k) (s_kn S x.toNatClampNeg k.toNatClampNeg) (xW E a S mk rk rv ++ F) (fun En => En = xIOE ∧ ¬ (okShip S x ∧ okKey k)) 2 12 := by
  refine gXi.of (cc := cX2_knownBy) (maxL := 4) (ty := .int) (by decide) rfl (Nat.le_of_ble_eq_true rfl) ?_
  intro p e s m args below meth c A C ht ls hl hO
  have hl : lv_has ls 4 [(0, .ref (a 0)), (1, .int x), (2, .int k)] := hl
  have iX1 : ∀ w ∈ u_ws RX1 TX1 5, w ∈ wsX2_knownBy := by decide +kernel
  obtain ⟨hn, hsh, hsc, hOn, hOb, hok9, hpc9, hp0⟩ := hI
  refine lv_aload_n C.1 C.2.1 dX2_knownBy_0 rfl (lv_at hl 0 rfl) ?_
  refine lv_iload_n C.1 C.2.1 dX2_knownBy_1 rfl (lv_at hl 1 rfl) ?_
  refine gXCall_r (As := [.int x]) (rest := []) C hO (c_X2_shipNumbered l E a S mk rk rv F x hst hsh) (cwV 1 C.2.2.2.2.1 gX2_knownBy_X2_shipNumbered rfl rfl rfl (by decide +kernel) ⟨(Nat.le_of_ble_eq_true rfl), (Nat.le_of_ble_eq_true rfl)⟩) (va_recv C.2.2.2.2.2.2.2.1.1 hO.1 (ci := 2) (q0 := 0) rfl rfl) rfl hl.1 rfl (Nat.le_of_ble_eq_true rfl) dX2_knownBy_2 ⟨(Nat.le_of_ble_eq_true rfl), (Nat.le_of_ble_eq_true rfl)⟩ (fun E0 ce q9 H locs hO hcell hcv hcl hbad => ?_) (fun H locs hO hok => ?_)
  · exact gXout C hO ht hcell hcv hcl (⟨hbad.1, fun g => hbad.2 g.1⟩) (Nat.le_of_ble_eq_true rfl) (Nat.le_of_ble_eq_true rfl)
  have hj9 := okNat (by omega) hok.1 hok.2
  have hi9 : x.toNatClampNeg < 6 := by omega
  refine lv_astore_n (lv' := [(3, .ref (a (11 + x.toNatClampNeg))), (0, .ref (a 0)), (1, .int x), (2, .int k)]) C.1 C.2.1 dX2_knownBy_5 rfl hl (by decide) rfl (fun ls hl => ?_)
  refine lv_iload_n C.1 C.2.1 dX2_knownBy_6 rfl (lv_at hl 3 rfl) ?_
  refine gXCallS_v (As := [.int k]) (rest := []) C hO (c_X2_checkKey l E a S mk rk rv F k hst) (cwS 1 C.2.2.2.2.1 gX2_knownBy_X2_checkKey rfl rfl rfl (by decide +kernel) ⟨(Nat.le_of_ble_eq_true rfl), (Nat.le_of_ble_eq_true rfl)⟩) rfl hl.1 rfl (Nat.le_of_ble_eq_true rfl) dX2_knownBy_7 ⟨(Nat.le_of_ble_eq_true rfl), (Nat.le_of_ble_eq_true rfl)⟩ (fun E0 ce q9 H locs hO hcell hcv hcl hbad => ?_) (fun H locs hO hok2 => ?_)
  · exact gXout C hO ht hcell hcv hcl (⟨hbad.1, fun g => hbad.2 g.2⟩) (Nat.le_of_ble_eq_true rfl) (Nat.le_of_ble_eq_true rfl)
  refine lv_aload_n C.1 C.2.1 dX2_knownBy_10 rfl (lv_at hl 0 rfl) ?_
  refine gGetN (v := .ref (a (17 + x.toNatClampNeg))) (ref := RX1) (Cn := RX1) (T := TX1) (N := 5) (host := RX2) C iX1 hO (11 + x.toNatClampNeg) (xw_ship hi9) rfl 0 (by decide) (by decide +kernel) (fun _ h9 => h9) rfl dX2_knownBy_11 ?_
  refine lv_iload_n C.1 C.2.1 dX2_knownBy_14 rfl (lv_at hl 3 rfl) ?_
  have hkk9 := okKey_n hok2
  refine lv_eqi (y := nI k.toNatClampNeg) hkk9.2 ?_
  refine gIald (v := ((s_kn S) x.toNatClampNeg) k.toNatClampNeg) (j := k.toNatClampNeg) C hO (17 + x.toNatClampNeg) (xw_kn hi9) hkk9.1 (by decide) rfl dX2_knownBy_15 ?_
  exact gXRi C hO rfl (⟨hok, hok2⟩) rfl dX2_knownBy_16 (Nat.le_of_ble_eq_true rfl) (Nat.le_of_ble_eq_true rfl)

set_option maxHeartbeats 4000000 in
set_option maxRecDepth 100000 in
theorem c_X2_errorsOf (l : Launch) (E : gE) (a : Nat → Nat) (S : St) (mk rk rv : Nat → Int32) (F : va_W) (x : Int32) (hst : l.stackTraces = false) (hI : s_inv S) : gXi l E yX2_errorsOf wsX2_errorsOf ({ frames := 7, cells := 1, slots := 6, locals := 103 }) (xW E a S mk rk rv ++ F) [.ref (a 0), .int x] (okShip S x) (nI (s_ea S x.toNatClampNeg 0)) (xW E a S mk rk rv ++ F) (fun En => En = xIOE ∧ ¬ okShip S x) 1 6 := by
  refine gXi.of (cc := cX2_errorsOf) (maxL := 2) (ty := .int) (by decide) rfl (Nat.le_of_ble_eq_true rfl) ?_
  intro p e s m args below meth c A C ht ls hl hO
  have hl : lv_has ls 2 [(0, .ref (a 0)), (1, .int x)] := hl
  obtain ⟨hn, hsh, hsc, hOn, hOb, hok9, hpc9, hp0⟩ := hI
  refine lv_aload_n C.1 C.2.1 dX2_errorsOf_0 rfl (lv_at hl 0 rfl) ?_
  refine lv_aload_n C.1 C.2.1 dX2_errorsOf_1 rfl (lv_at hl 0 rfl) ?_
  refine lv_iload_n C.1 C.2.1 dX2_errorsOf_2 rfl (lv_at hl 1 rfl) ?_
  refine gXCall_r (As := [.int x]) (rest := [.ref (a 0)]) C hO (c_X2_shipNumbered l E a S mk rk rv F x hst hsh) (cwV 1 C.2.2.2.2.1 gX2_errorsOf_X2_shipNumbered rfl rfl rfl (by decide +kernel) ⟨(Nat.le_of_ble_eq_true rfl), (Nat.le_of_ble_eq_true rfl)⟩) (va_recv C.2.2.2.2.2.2.2.1.1 hO.1 (ci := 2) (q0 := 0) rfl rfl) rfl hl.1 rfl (Nat.le_of_ble_eq_true rfl) dX2_errorsOf_3 ⟨(Nat.le_of_ble_eq_true rfl), (Nat.le_of_ble_eq_true rfl)⟩ (fun E0 ce q9 H locs hO hcell hcv hcl hbad => ?_) (fun H locs hO hok => ?_)
  · exact gXout C hO ht hcell hcv hcl hbad (Nat.le_of_ble_eq_true rfl) (Nat.le_of_ble_eq_true rfl)
  have hj9 := okNat (by omega) hok.1 hok.2
  have hi9 : x.toNatClampNeg < 6 := by omega
  refine lv_iconst (v := 0) C.1 C.2.1 dX2_errorsOf_6 (by decide) ?_
  refine gCall_i (As := [.ref (a (11 + x.toNatClampNeg)), .int 0]) (rest := []) C hO (c_X2_errorsAfter l E a S mk rk rv F x.toNatClampNeg 0 (by omega) hi9 (by omega)) (cwV 2 C.2.2.2.2.1 gX2_errorsOf_X2_errorsAfter rfl rfl rfl (by decide +kernel) ⟨(Nat.le_of_ble_eq_true rfl), (Nat.le_of_ble_eq_true rfl)⟩) (va_recv C.2.2.2.2.2.2.2.1.1 hO.1 (ci := 2) (q0 := 0) rfl rfl) rfl hl.1 rfl (Nat.le_of_ble_eq_true rfl) dX2_errorsOf_7 ⟨(Nat.le_of_ble_eq_true rfl), (Nat.le_of_ble_eq_true rfl)⟩ (fun H locs hO => ?_)
  exact gXRi C hO rfl hok rfl dX2_errorsOf_10 (Nat.le_of_ble_eq_true rfl) (Nat.le_of_ble_eq_true rfl)

set_option maxHeartbeats 4000000 in
set_option maxRecDepth 100000 in
theorem c_X2_farthestBehind (l : Launch) (E : gE) (a : Nat → Nat) (S : St) (mk rk rv : Nat → Int32) (F : va_W)  (hI : s_inv S) : gMi l E yX2_farthestBehind wsX2_farthestBehind ({ frames := 2, cells := 0, slots := 0, locals := 43 }) (xW E a S mk rk rv ++ F) [.ref (a 0)] (oI (s_fb S (s_sh S))) (xW E a S mk rk rv ++ F) 0 0 := by
  refine gMi.of (cc := cX2_farthestBehind) (maxL := 5) (ty := .int) (by decide) rfl (Nat.le_of_ble_eq_true rfl) ?_
  intro p e s m args below meth c A C ls hl hO
  have hl : lv_has ls 5 [(0, .ref (a 0))] := hl
  have iX2 : ∀ w ∈ u_ws RX2 TX2 9, w ∈ wsX2_farthestBehind := by decide +kernel
  have w90 : Cond.fieldLink RX2 90 "ParrotLog" "shipCount" "I" ∈ wsX2_farthestBehind := by decide +kernel
  have w22 : Cond.fieldLink RX2 22 "ParrotLog" "fleet" "[LParrotLog$Ship;" ∈ wsX2_farthestBehind := by decide +kernel
  obtain ⟨hn, hsh, hsc, hOn, hOb, hok9, hpc9, hp0⟩ := hI
  refine lv_iconst (v := (-1)) C.1 C.2.1 dX2_farthestBehind_0 (by decide) ?_
  refine lv_istore_n (lv' := [(1, .int (-1)), (0, .ref (a 0))]) C.1 C.2.1 dX2_farthestBehind_1 rfl hl (by decide) rfl (fun ls hl => ?_)
  refine lv_iconst (v := (-1)) C.1 C.2.1 dX2_farthestBehind_2 (by decide) ?_
  refine lv_istore_n (lv' := [(2, .int (-1)), (1, .int (-1)), (0, .ref (a 0))]) C.1 C.2.1 dX2_farthestBehind_3 rfl hl (by decide) rfl (fun ls hl => ?_)
  refine lv_iconst (v := 0) C.1 C.2.1 dX2_farthestBehind_4 (by decide) ?_
  refine lv_istore_n (lv' := [(3, .int 0), (2, .int (-1)), (1, .int (-1)), (0, .ref (a 0))]) C.1 C.2.1 dX2_farthestBehind_5 rfl hl (by decide) rfl (fun ls hl => ?_)
  have lp24 : ∀ (f : Nat) (k24 : Nat), (s_sh S + 1 ≤ k24 + f) → (k24 ≤ s_sh S) → ∀ (H : Heap) (locs : List Loc), gO E A s (xW E a S mk rk rv ++ F) H locs → ∀ ls : Array Slot, lv_has ls 5 [(0, .ref (a 0)), (1, .int (oI (s_fb S k24))), (2, .int (s_gl S k24)), (3, .int (nI k24))] → W p l e ({ frames := 2, cells := 0, slots := 0, locals := 43 } : Room) s m args below meth c H locs 0 0 (MQ below (gQi E A (oI (s_fb S (s_sh S))) (xW E a S mk rk rv ++ F)) args s 0 0 A) (F0 m 6 ls []) := by
    intro f
    induction f with
    | zero =>
      intro k24 hf hk24
      exact absurd hf (by omega)
    | succ f ih_lp24 =>
      intro k24 hf hk24 H locs hO ls hl
      refine lv_iload_n C.1 C.2.1 dX2_farthestBehind_6 rfl (lv_at hl 3 rfl) ?_
      refine lv_aload_n C.1 C.2.1 dX2_farthestBehind_7 rfl (lv_at hl 0 rfl) ?_
      refine gGet (v := .int (nI (s_sh S))) (ref := RX2) (Cn := RX2) (T := TX2) (N := 9) C iX2 hO 0 rfl rfl 8 (by decide) w90 (fun _ h9 => h9) rfl dX2_farthestBehind_8 ?_
      refine gGeN (x := k24) (y := (s_sh S)) (tgt := 43) C.1 C.2.1 (by omega) (by omega) dX2_farthestBehind_11 (by decide) (fun c_1 => ?_) (fun c_1 => ?_)
      · refine lv_iload_n C.1 C.2.1 dX2_farthestBehind_43 rfl (lv_at hl 1 rfl) ?_
        exact gRi C hO rfl (by rw [show k24 = s_sh S by omega]) dX2_farthestBehind_44 (Nat.le_of_ble_eq_true rfl) (Nat.le_of_ble_eq_true rfl)
      · refine lv_aload_n C.1 C.2.1 dX2_farthestBehind_14 rfl (lv_at hl 0 rfl) ?_
        refine lv_aload_n C.1 C.2.1 dX2_farthestBehind_15 rfl (lv_at hl 0 rfl) ?_
        refine gGet (v := .ref (a 8)) (ref := RX2) (Cn := RX2) (T := TX2) (N := 9) C iX2 hO 0 rfl rfl 2 (by decide) w22 (fun _ h9 => h9) rfl dX2_farthestBehind_16 ?_
        refine lv_iload_n C.1 C.2.1 dX2_farthestBehind_19 rfl (lv_at hl 3 rfl) ?_
        refine gAald (v := a (11 + k24)) (j := k24) C hO 8 rfl (by omega) (by decide) (xFl_at (by omega)) dX2_farthestBehind_20 ?_
        refine gCall_i (As := [.ref (a (11 + k24))]) (rest := []) C hO (c_X2_lag l E a S mk rk rv F k24 (by omega) (by omega)) (cwV 1 C.2.2.2.2.1 gX2_farthestBehind_X2_lag rfl rfl rfl (by decide +kernel) ⟨(Nat.le_of_ble_eq_true rfl), (Nat.le_of_ble_eq_true rfl)⟩) (va_recv C.2.2.2.2.2.2.2.1.1 hO.1 (ci := 2) (q0 := 0) rfl rfl) rfl hl.1 rfl (Nat.le_of_ble_eq_true rfl) dX2_farthestBehind_21 ⟨(Nat.le_of_ble_eq_true rfl), (Nat.le_of_ble_eq_true rfl)⟩ (fun H locs hO => ?_)
        refine lv_istore (lv' := [(4, .int (nI (s_lag S k24))), (0, .ref (a 0)), (1, .int (oI (s_fb S k24))), (2, .int (s_gl S k24)), (3, .int (nI k24))]) C.1 C.2.1 dX2_farthestBehind_24 hl (by decide) rfl (fun ls hl => ?_)
        have hll9 := s_lag_le S k24
        refine lv_iload C.1 C.2.1 dX2_farthestBehind_26 (lv_at hl 0 rfl) ?_
        refine lv_iload_n C.1 C.2.1 dX2_farthestBehind_28 rfl (lv_at hl 3 rfl) ?_
        refine gLeI (tgt := 37) C.1 C.2.1 dX2_farthestBehind_29 (by decide) (fun c_2 => ?_) (fun c_2 => ?_)
        · have hz9 := s_fb_0 hn c_2
          have hl : lv_has ls 5 [(0, .ref (a 0)), (1, .int (oI (s_fb S k24))), (2, .int (s_gl S k24)), (3, .int (nI k24))] := lv_sub hl [1, 2, 3, 4] rfl
          have hl : lv_has ls 5 [(0, .ref (a 0)), (1, .int (oI (s_fb S (k24 + 1)))), (2, .int (s_gl S (k24 + 1))), (3, .int (nI k24))] := by rw [hz9, s_gl_0 hz9]; exact hl
          refine gInc (j := k24) (k := 3) (lv' := [(3, .int (nI (k24 + 1))), (0, .ref (a 0)), (1, .int (oI (s_fb S (k24 + 1)))), (2, .int (s_gl S (k24 + 1)))]) C.1 C.2.1 dX2_farthestBehind_37 hl rfl (by decide) rfl (fun ls hl => ?_)
          refine lv_goto (tgt := 6) C.1 C.2.1 dX2_farthestBehind_40 (by decide) ?_
          refine W.widen (k := 0) (n := 0) (by omega) (by omega) ?_
          exact ih_lp24 (k24 + 1) (by omega) (by omega) _ _ hO _ (lv_sub hl [1, 2, 3, 0] rfl)
        · have hz9 := s_fb_1 hn c_2
          refine lv_iload_n C.1 C.2.1 dX2_farthestBehind_32 rfl (lv_at hl 4 rfl) ?_
          refine lv_istore_n (lv' := [(1, .int (nI k24)), (4, .int (nI (s_lag S k24))), (0, .ref (a 0)), (2, .int (s_gl S k24)), (3, .int (nI k24))]) C.1 C.2.1 dX2_farthestBehind_33 rfl hl (by decide) rfl (fun ls hl => ?_)
          refine lv_iload C.1 C.2.1 dX2_farthestBehind_34 (lv_at hl 1 rfl) ?_
          refine lv_istore_n (lv' := [(2, .int (nI (s_lag S k24))), (1, .int (nI k24)), (4, .int (nI (s_lag S k24))), (0, .ref (a 0)), (3, .int (nI k24))]) C.1 C.2.1 dX2_farthestBehind_36 rfl hl (by decide) rfl (fun ls hl => ?_)
          have hl : lv_has ls 5 [(2, .int (nI (s_lag S k24))), (1, .int (nI k24)), (0, .ref (a 0)), (3, .int (nI k24))] := lv_sub hl [0, 1, 3, 4] rfl
          have hl : lv_has ls 5 [(2, .int (s_gl S (k24 + 1))), (1, .int (oI (s_fb S (k24 + 1)))), (0, .ref (a 0)), (3, .int (nI k24))] := by rw [hz9, s_gl_1 hz9]; exact hl
          refine gInc (j := k24) (k := 3) (lv' := [(3, .int (nI (k24 + 1))), (2, .int (s_gl S (k24 + 1))), (1, .int (oI (s_fb S (k24 + 1)))), (0, .ref (a 0))]) C.1 C.2.1 dX2_farthestBehind_37 hl rfl (by decide) rfl (fun ls hl => ?_)
          refine lv_goto (tgt := 6) C.1 C.2.1 dX2_farthestBehind_40 (by decide) ?_
          refine W.widen (k := 0) (n := 0) (by omega) (by omega) ?_
          exact ih_lp24 (k24 + 1) (by omega) (by omega) _ _ hO _ (lv_sub hl [3, 2, 1, 0] rfl)
  exact lp24 (s_sh S + 1) 0 (by omega) (Nat.zero_le _) _ _ hO _ (lv_sub hl [3, 2, 1, 0] rfl)

set_option maxHeartbeats 4000000 in
set_option maxRecDepth 100000 in
theorem c_X2_wouldCompact (l : Launch) (E : gE) (a : Nat → Nat) (S : St) (mk rk rv : Nat → Int32) (F : va_W)  (hI : s_inv S) : gMi l E yX2_wouldCompact wsX2_wouldCompact ({ frames := 3, cells := 0, slots := 0, locals := 68 }) (xW E a S mk rk rv ++ F) [.ref (a 0)] (nI (s_wc S)) (xW E a S (mkU (s_cm S) mk (s_n S)) rk rv ++ F) 0 0 := by
  refine gMi.of (cc := cX2_wouldCompact) (maxL := 1) (ty := .int) (by decide) rfl (Nat.le_of_ble_eq_true rfl) ?_
  intro p e s m args below meth c A C ls hl hO
  have hl : lv_has ls 1 [(0, .ref (a 0))] := hl
  have iX2 : ∀ w ∈ u_ws RX2 TX2 9, w ∈ wsX2_wouldCompact := by decide +kernel
  have w10 : Cond.fieldLink RX2 10 "ParrotLog" "log" "LParrotLog$Log;" ∈ wsX2_wouldCompact := by decide +kernel
  obtain ⟨hn, hsh, hsc, hOn, hOb, hok9, hpc9, hp0⟩ := hI
  refine lv_aload_n C.1 C.2.1 dX2_wouldCompact_0 rfl (lv_at hl 0 rfl) ?_
  refine gCall_v (As := []) (rest := []) C hO (c_X2_markCompacted l E a S mk rk rv F (by omega) (by omega)) (cwV 0 C.2.2.2.2.1 gX2_wouldCompact_X2_markCompacted rfl rfl rfl (by decide +kernel) ⟨(Nat.le_of_ble_eq_true rfl), (Nat.le_of_ble_eq_true rfl)⟩) (va_recv C.2.2.2.2.2.2.2.1.1 hO.1 (ci := 2) (q0 := 0) rfl rfl) rfl hl.1 rfl (Nat.le_of_ble_eq_true rfl) dX2_wouldCompact_1 ⟨(Nat.le_of_ble_eq_true rfl), (Nat.le_of_ble_eq_true rfl)⟩ (fun H locs hO => ?_)
  have hO : gO E A s (xW E a S (mkU (s_cm S) mk (s_n S)) rk rv ++ F) H locs := hO
  refine lv_aload_n C.1 C.2.1 dX2_wouldCompact_4 rfl (lv_at hl 0 rfl) ?_
  refine gGet (v := .ref (a 1)) (ref := RX2) (Cn := RX2) (T := TX2) (N := 9) C iX2 hO 0 rfl rfl 0 (by decide) w10 (fun _ h9 => h9) rfl dX2_wouldCompact_5 ?_
  refine gCallN_i (As := []) (rest := []) C hO (c_X0_countMarked l E a S (mkU (s_cm S) mk (s_n S)) rk rv F (by omega)) ⟨va_cnB (host := RX2) 0 C.2.2.2.2.1 gX2_wouldCompact_X0_countMarked_n180 rfl rfl rfl (C.2.2.2.2.2.2.2.1.2.1 (.methodLinkNest RX2 180 yX0_countMarked RX2) (by decide +kernel)) (C.2.2.2.2.1 (.initialized RX0) (by decide +kernel)) (by decide +kernel) ⟨(Nat.le_of_ble_eq_true rfl), (Nat.le_of_ble_eq_true rfl)⟩, C.2.2.2.2.1 (.instanceMethod yX0_countMarked) (by decide +kernel), C.2.2.2.2.1 (.selects RX0 yX0_countMarked yX0_countMarked) (by decide +kernel)⟩ (va_recv C.2.2.2.2.2.2.2.1.1 hO.1 (ci := 0) (q0 := 1) rfl rfl) rfl hl.1 rfl (Nat.le_of_ble_eq_true rfl) dX2_wouldCompact_8 ⟨(Nat.le_of_ble_eq_true rfl), (Nat.le_of_ble_eq_true rfl)⟩ (fun H locs hO => ?_)
  exact gRi C hO rfl (by rw [hp0, cm_mkU]; rfl) dX2_wouldCompact_11 (Nat.le_of_ble_eq_true rfl) (Nat.le_of_ble_eq_true rfl)

set_option maxHeartbeats 4000000 in
set_option maxRecDepth 100000 in
theorem c_X2_wouldMiss (l : Launch) (E : gE) (a : Nat → Nat) (S : St) (mk rk rv : Nat → Int32) (F : va_W) (x : Int32) (hst : l.stackTraces = false) (hI : s_inv S) : gXi l E yX2_wouldMiss wsX2_wouldMiss ({ frames := 7, cells := 1, slots := 6, locals := 103 }) (xW E a S mk rk rv ++ F) [.ref (a 0), .int x] (okShip S x) (nI (s_wm S x.toNatClampNeg)) (xW E a S (mkU (s_cm S) mk (s_n S)) rk rv ++ F) (fun En => En = xIOE ∧ ¬ okShip S x) 1 6 := by
  refine gXi.of (cc := cX2_wouldMiss) (maxL := 3) (ty := .int) (by decide) rfl (Nat.le_of_ble_eq_true rfl) ?_
  intro p e s m args below meth c A C ht ls hl hO
  have hl : lv_has ls 3 [(0, .ref (a 0)), (1, .int x)] := hl
  have iX1 : ∀ w ∈ u_ws RX1 TX1 5, w ∈ wsX2_wouldMiss := by decide +kernel
  have iX2 : ∀ w ∈ u_ws RX2 TX2 9, w ∈ wsX2_wouldMiss := by decide +kernel
  have w10 : Cond.fieldLink RX2 10 "ParrotLog" "log" "LParrotLog$Log;" ∈ wsX2_wouldMiss := by decide +kernel
  obtain ⟨hn, hsh, hsc, hOn, hOb, hok9, hpc9, hp0⟩ := hI
  refine lv_aload_n C.1 C.2.1 dX2_wouldMiss_0 rfl (lv_at hl 0 rfl) ?_
  refine lv_iload_n C.1 C.2.1 dX2_wouldMiss_1 rfl (lv_at hl 1 rfl) ?_
  refine gXCall_r (As := [.int x]) (rest := []) C hO (c_X2_shipNumbered l E a S mk rk rv F x hst hsh) (cwV 1 C.2.2.2.2.1 gX2_wouldMiss_X2_shipNumbered rfl rfl rfl (by decide +kernel) ⟨(Nat.le_of_ble_eq_true rfl), (Nat.le_of_ble_eq_true rfl)⟩) (va_recv C.2.2.2.2.2.2.2.1.1 hO.1 (ci := 2) (q0 := 0) rfl rfl) rfl hl.1 rfl (Nat.le_of_ble_eq_true rfl) dX2_wouldMiss_2 ⟨(Nat.le_of_ble_eq_true rfl), (Nat.le_of_ble_eq_true rfl)⟩ (fun E0 ce q9 H locs hO hcell hcv hcl hbad => ?_) (fun H locs hO hok => ?_)
  · exact gXout C hO ht hcell hcv hcl hbad (Nat.le_of_ble_eq_true rfl) (Nat.le_of_ble_eq_true rfl)
  have hj9 := okNat (by omega) hok.1 hok.2
  have hi9 : x.toNatClampNeg < 6 := by omega
  refine lv_astore_n (lv' := [(2, .ref (a (11 + x.toNatClampNeg))), (0, .ref (a 0)), (1, .int x)]) C.1 C.2.1 dX2_wouldMiss_5 rfl hl (by decide) rfl (fun ls hl => ?_)
  refine lv_aload_n C.1 C.2.1 dX2_wouldMiss_6 rfl (lv_at hl 1 rfl) ?_
  refine gCall_v (As := []) (rest := []) C hO (c_X2_markCompacted l E a S mk rk rv F (by omega) (by omega)) (cwV 0 C.2.2.2.2.1 gX2_wouldMiss_X2_markCompacted rfl rfl rfl (by decide +kernel) ⟨(Nat.le_of_ble_eq_true rfl), (Nat.le_of_ble_eq_true rfl)⟩) (va_recv C.2.2.2.2.2.2.2.1.1 hO.1 (ci := 2) (q0 := 0) rfl rfl) rfl hl.1 rfl (Nat.le_of_ble_eq_true rfl) dX2_wouldMiss_7 ⟨(Nat.le_of_ble_eq_true rfl), (Nat.le_of_ble_eq_true rfl)⟩ (fun H locs hO => ?_)
  have hO : gO E A s (xW E a S (mkU (s_cm S) mk (s_n S)) rk rv ++ F) H locs := hO
  refine lv_aload_n C.1 C.2.1 dX2_wouldMiss_10 rfl (lv_at hl 1 rfl) ?_
  refine gGet (v := .ref (a 1)) (ref := RX2) (Cn := RX2) (T := TX2) (N := 9) C iX2 hO 0 rfl rfl 0 (by decide) w10 (fun _ h9 => h9) rfl dX2_wouldMiss_11 ?_
  refine lv_aload_n C.1 C.2.1 dX2_wouldMiss_14 rfl (lv_at hl 0 rfl) ?_
  refine gGetN (v := .int ((s_at S) x.toNatClampNeg)) (ref := RX1) (Cn := RX1) (T := TX1) (N := 5) (host := RX2) C iX1 hO (11 + x.toNatClampNeg) (xw_ship hi9) rfl 2 (by decide) (by decide +kernel) (fun _ h9 => h9) rfl dX2_wouldMiss_15 ?_
  refine gCallN_i (As := [.int ((s_at S) x.toNatClampNeg)]) (rest := []) C hO (c_X0_countMarkedFrom l E a S (mkU (s_cm S) mk (s_n S)) rk rv F ((s_at S) x.toNatClampNeg) (by omega)) ⟨va_cnB (host := RX2) 1 C.2.2.2.2.1 gX2_wouldMiss_X0_countMarkedFrom_n183 rfl rfl rfl (C.2.2.2.2.2.2.2.1.2.1 (.methodLinkNest RX2 183 yX0_countMarkedFrom RX2) (by decide +kernel)) (C.2.2.2.2.1 (.initialized RX0) (by decide +kernel)) (by decide +kernel) ⟨(Nat.le_of_ble_eq_true rfl), (Nat.le_of_ble_eq_true rfl)⟩, C.2.2.2.2.1 (.instanceMethod yX0_countMarkedFrom) (by decide +kernel), C.2.2.2.2.1 (.selects RX0 yX0_countMarkedFrom yX0_countMarkedFrom) (by decide +kernel)⟩ (va_recv C.2.2.2.2.2.2.2.1.1 hO.1 (ci := 0) (q0 := 1) rfl rfl) rfl hl.1 rfl (Nat.le_of_ble_eq_true rfl) dX2_wouldMiss_18 ⟨(Nat.le_of_ble_eq_true rfl), (Nat.le_of_ble_eq_true rfl)⟩ (fun H locs hO => ?_)
  exact gXRi C hO rfl hok (by rw [cm_mkU]; rfl) dX2_wouldMiss_21 (Nat.le_of_ble_eq_true rfl) (Nat.le_of_ble_eq_true rfl)

set_option maxHeartbeats 4000000 in
set_option maxRecDepth 100000 in
theorem c_X2_meanLag (l : Launch) (E : gE) (a : Nat → Nat) (S : St) (mk rk rv : Nat → Int32) (F : va_W)  (hI : s_inv S) : gMd l E yX2_meanLag wsX2_meanLag ({ frames := 2, cells := 0, slots := 0, locals := 43 }) (xW E a S mk rk rv ++ F) [.ref (a 0)] (s_ml S) (xW E a S mk rk rv ++ F) 0 0 := by
  refine gMd.of (cc := cX2_meanLag) (maxL := 3) (by decide) rfl (Nat.le_of_ble_eq_true rfl) ?_
  intro p e s m args below meth c A C ls hl hO
  have hl : lv_has ls 3 [(0, .ref (a 0))] := hl
  have iX2 : ∀ w ∈ u_ws RX2 TX2 9, w ∈ wsX2_meanLag := by decide +kernel
  have w90 : Cond.fieldLink RX2 90 "ParrotLog" "shipCount" "I" ∈ wsX2_meanLag := by decide +kernel
  have w22 : Cond.fieldLink RX2 22 "ParrotLog" "fleet" "[LParrotLog$Ship;" ∈ wsX2_meanLag := by decide +kernel
  obtain ⟨hn, hsh, hsc, hOn, hOb, hok9, hpc9, hp0⟩ := hI
  refine lv_aload_n C.1 C.2.1 dX2_meanLag_0 rfl (lv_at hl 0 rfl) ?_
  refine gGet (v := .int (nI (s_sh S))) (ref := RX2) (Cn := RX2) (T := TX2) (N := 9) C iX2 hO 0 rfl rfl 8 (by decide) w90 (fun _ h9 => h9) rfl dX2_meanLag_1 ?_
  refine lv_if_ne (tgt := 9) C.1 C.2.1 dX2_meanLag_4 (by decide) (fun c_1 => ?_) (fun c_1 => ?_)
  · have hz : ¬ s_sh S = 0 := fun g => c_1 (by rw [g]; rfl)
    refine lv_iconst (v := 0) C.1 C.2.1 dX2_meanLag_9 (by decide) ?_
    refine lv_istore_n (lv' := [(1, .int 0), (0, .ref (a 0))]) C.1 C.2.1 dX2_meanLag_10 rfl hl (by decide) rfl (fun ls hl => ?_)
    refine lv_iconst (v := 0) C.1 C.2.1 dX2_meanLag_11 (by decide) ?_
    refine lv_istore_n (lv' := [(2, .int 0), (1, .int 0), (0, .ref (a 0))]) C.1 C.2.1 dX2_meanLag_12 rfl hl (by decide) rfl (fun ls hl => ?_)
    have lp24 : ∀ (f : Nat) (k24 : Nat), (s_sh S + 1 ≤ k24 + f) → (k24 ≤ s_sh S) → ∀ (H : Heap) (locs : List Loc), gO E A s (xW E a S mk rk rv ++ F) H locs → ∀ ls : Array Slot, lv_has ls 3 [(0, .ref (a 0)), (1, .int (nI (s_sl S k24))), (2, .int (nI k24))] → W p l e ({ frames := 2, cells := 0, slots := 0, locals := 43 } : Room) s m args below meth c H locs 0 0 (MQ below (gQd E A (s_ml S) (xW E a S mk rk rv ++ F)) args s 0 0 A) (F0 m 13 ls []) := by
      intro f
      induction f with
      | zero =>
        intro k24 hf hk24
        exact absurd hf (by omega)
      | succ f ih_lp24 =>
        intro k24 hf hk24 H locs hO ls hl
        refine lv_iload_n C.1 C.2.1 dX2_meanLag_13 rfl (lv_at hl 2 rfl) ?_
        refine lv_aload_n C.1 C.2.1 dX2_meanLag_14 rfl (lv_at hl 0 rfl) ?_
        refine gGet (v := .int (nI (s_sh S))) (ref := RX2) (Cn := RX2) (T := TX2) (N := 9) C iX2 hO 0 rfl rfl 8 (by decide) w90 (fun _ h9 => h9) rfl dX2_meanLag_15 ?_
        refine gGeN (x := k24) (y := (s_sh S)) (tgt := 40) C.1 C.2.1 (by omega) (by omega) dX2_meanLag_18 (by decide) (fun c_2 => ?_) (fun c_2 => ?_)
        · have hke9 : k24 = s_sh S := by omega
          have hsl9 := s_sl_le hn (s_sh S)
          rw [hke9] at hl
          refine lv_iload_n C.1 C.2.1 dX2_meanLag_40 rfl (lv_at hl 1 rfl) ?_
          refine lv_i2d C.1 C.2.1 dX2_meanLag_41 ?_
          refine lv_aload_n C.1 C.2.1 dX2_meanLag_42 rfl (lv_at hl 0 rfl) ?_
          refine gGet (v := .int (nI (s_sh S))) (ref := RX2) (Cn := RX2) (T := TX2) (N := 9) C iX2 hO 0 rfl rfl 8 (by decide) w90 (fun _ h9 => h9) rfl dX2_meanLag_43 ?_
          refine lv_i2d C.1 C.2.1 dX2_meanLag_46 ?_
          refine lv_ddiv C.1 C.2.1 dX2_meanLag_47 (ml_nan _ _ (by omega) (by omega) (by omega)) ?_
          exact gRd C hO ((if_neg hz).symm) dX2_meanLag_48 (Nat.le_of_ble_eq_true rfl) (Nat.le_of_ble_eq_true rfl)
        · refine lv_iload_n C.1 C.2.1 dX2_meanLag_21 rfl (lv_at hl 1 rfl) ?_
          refine lv_aload_n C.1 C.2.1 dX2_meanLag_22 rfl (lv_at hl 0 rfl) ?_
          refine lv_aload_n C.1 C.2.1 dX2_meanLag_23 rfl (lv_at hl 0 rfl) ?_
          refine gGet (v := .ref (a 8)) (ref := RX2) (Cn := RX2) (T := TX2) (N := 9) C iX2 hO 0 rfl rfl 2 (by decide) w22 (fun _ h9 => h9) rfl dX2_meanLag_24 ?_
          refine lv_iload_n C.1 C.2.1 dX2_meanLag_27 rfl (lv_at hl 2 rfl) ?_
          refine gAald (v := a (11 + k24)) (j := k24) C hO 8 rfl (by omega) (by decide) (xFl_at (by omega)) dX2_meanLag_28 ?_
          refine gCall_i (As := [.ref (a (11 + k24))]) (rest := [.int (nI (s_sl S k24))]) C hO (c_X2_lag l E a S mk rk rv F k24 (by omega) (by omega)) (cwV 1 C.2.2.2.2.1 gX2_meanLag_X2_lag rfl rfl rfl (by decide +kernel) ⟨(Nat.le_of_ble_eq_true rfl), (Nat.le_of_ble_eq_true rfl)⟩) (va_recv C.2.2.2.2.2.2.2.1.1 hO.1 (ci := 2) (q0 := 0) rfl rfl) rfl hl.1 rfl (Nat.le_of_ble_eq_true rfl) dX2_meanLag_29 ⟨(Nat.le_of_ble_eq_true rfl), (Nat.le_of_ble_eq_true rfl)⟩ (fun H locs hO => ?_)
          refine gAddN (x := (s_sl S k24)) (y := (s_lag S k24)) C.1 C.2.1 dX2_meanLag_32 ?_
          refine lv_istore_n (lv' := [(1, .int (nI ((s_sl S k24) + (s_lag S k24)))), (0, .ref (a 0)), (2, .int (nI k24))]) C.1 C.2.1 dX2_meanLag_33 rfl hl (by decide) rfl (fun ls hl => ?_)
          refine gInc (j := k24) (k := 2) (lv' := [(2, .int (nI (k24 + 1))), (1, .int (nI ((s_sl S k24) + (s_lag S k24)))), (0, .ref (a 0))]) C.1 C.2.1 dX2_meanLag_34 hl rfl (by decide) rfl (fun ls hl => ?_)
          refine lv_goto (tgt := 13) C.1 C.2.1 dX2_meanLag_37 (by decide) ?_
          refine W.widen (k := 0) (n := 0) (by omega) (by omega) ?_
          exact ih_lp24 (k24 + 1) (by omega) (by omega) _ _ hO _ (lv_sub hl [2, 1, 0] rfl)
    exact lp24 (s_sh S + 1) 0 (by omega) (Nat.zero_le _) _ _ hO _ (lv_sub hl [2, 1, 0] rfl)
  · have hz : s_sh S = 0 := nI_z (by omega) c_1
    refine lv_dconst0 C.1 C.2.1 dX2_meanLag_7 ?_
    exact gRd C hO ((if_pos hz).symm) dX2_meanLag_8 (Nat.le_of_ble_eq_true rfl) (Nat.le_of_ble_eq_true rfl)
end
section
-- CONSTRUCTORS: their worlds come with new addresses
abbrev gQn (E : gE) (A : Nat → Prop) (post : (Nat → Nat) → Prop) (wsu : (Nat → Nat) → va_W) : Array Value → State → Outcome → State → Prop := va_Qv (S := Nat → Nat) post (fun u => gB E A (wsu u)) A
abbrev gPn (E : gE) (ws : va_W) (sz : Nat) (av : List Value) : Array Value → State → Prop := va_Pc av (fun U => (U.heap.size = sz ∧ va_P E.1 vwCl ws U.heap ∧ eOk E U ∧ va_D (fun _ => True) ws ∧ gZ (va_A ws sz) U U.heap) ∧ va_AO RX1 U)
theorem gPn_blind {E : gE} {ws : va_W} {sz : Nat} {av : List Value} : FrameBlind (gPn E ws sz av) := fun a U g mk h => ⟨h.1, (gP_blind (E := E) (ws := ws) (sz := sz) (av := av) a U g mk ⟨h.1, h.2.1⟩).2, va_AO.moved (u := U) (U := U.calling g mk a) (Vm.Alike.refl U.vm) h.2.2⟩
def gMn (l : Launch) (E : gE) (y : MethodName) (wl : List Cond) (rm : Room) (ws : va_W) (av : List Value) (post : (Nat → Nat) → Prop) (wsu : (Nat → Nat) → va_W) (mc ms : Nat) : Prop := ∀ sz : Nat, Met l y wl rm (gPn E ws sz av) (gQn E (va_A ws sz) post wsu) mc ms (va_A ws sz)
section GN
variable {p : Program} {l : Launch} {e : Env} {R : Room} {s : State} {m : MethodId} {args : Array Value} {below : List Frame} {meth : Method} {c : Code} {H : Heap} {locs : List Loc} {cells slots : Nat} {Q : State → Prop}
variable {E : gE} {A : Nat → Prop} {ws ws' : va_W} {y : MethodName} {wl wl' : List Cond} {rm : Room} {av : List Value} {mc ms : Nat} {cc bytes : ByteArray} {maxL nL : Nat} {ret : Option FieldType} {Ts : List Cond} {own : String}
variable {pc : Nat} {ls : Array Slot} {rest : List Value} {index n : Nat} {Cn : String} {b : Nat} {As st0 : List Value} {host : String} {post : (Nat → Nat) → Prop} {wsu : (Nat → Nat) → va_W}
theorem gMn.of (hy : plainName y.cls = true) (hw : wl = Cond.code y cc maxL none :: wl') (hlen : (lg_sl av).length ≤ maxL)
    (body : ∀ p e s m args below meth c A, gCx p s m args meth c cc maxL wl y.cls none E A → va_AO RX1 s → meth.name = y.name → ∀ ls : Array Slot, lv_has ls maxL (lv_args 0 av) → gO E A s ws s.heap [] → W p l e rm s m args below meth c s.heap [] 0 0 (MQ below (gQn E A post wsu) args s mc ms A) (F0 m 0 ls [])) : gMn l E y wl rm ws av post wsu mc ms := by
  intro sz
  refine Met.ofW (cc := cc) (maxL := maxL) (ret := none) hy hw ?_
  intro p e s m args below meth c s₁ B hml hv
  obtain ⟨rfl, ⟨hsz, hP, eo, hD0, hZ⟩, hao⟩ := hv
  have hts := atoms_spec (ws := wl) B.pre
  have hown : s.vm.findClass y.cls = some m.cls := findClass_of_methodNamed B.named
  have hnm : meth.name = y.name := (name_of_methodNamed B.named B.method).1
  subst hsz
  have hl := lv_entry av (n := maxL) hlen
  rw [lg_entry_eq]
  exact body p e s m av.toArray below meth c (va_A ws s.heap.size) ⟨B.exec, B.bytes, hml, hown, hts, B.returns, B.notSynchronized, eo, fun q h => Or.inr h, hZ⟩ hao hnm _ hl ⟨hP, hD0.self (sz := s.heap.size), va_S.rf⟩
theorem gRn (u : Nat → Nat) (C : gCx p s m args meth c cc nL Ts own none E A) (hO : gO E A s (wsu u) H locs) (hu : post u) (hdg : decode cc pc = .ok (.return_, 1)) (h1 : cells ≤ mc) (h2 : slots ≤ ms) : W p l e R s m args below meth c H locs cells slots (MQ below (gQn E A post wsu) args s mc ms A) (F0 m pc ls []) := by
  refine W.widen h1 h2 ?_
  exact W.vret C.1 C.2.1 C.2.2.2.2.2.1 (fun t ht hW => ⟨⟨u, rfl, hu, by rw [ht]; exact hO.1, hO.2.1⟩, hO.2.2.F ht⟩) hO.2.2.2.2 hdg C.2.2.2.2.2.2.1
theorem gObj {idx : Nat} {a : Nat} (C : gCx p s m args meth c cc nL Ts own ret E A) (h1 : Cond.methodLink own idx objectInit ∈ Ts) (h2 : Cond.instanceMethod objectInit ∈ Ts) (h3 : Cond.code objectInit ⟨#[0xb1]⟩ 1 none ∈ Ts) (hsize : ls.size = nL) (hdg : decode cc pc = .ok (.invokespecial idx, 3)) (hframes : 1 ≤ R.frames) (hlocals : (rest.map fun v => v.category).sum + 12 ≤ R.locals)
    (kk : W p l e R s m args below meth c H locs cells slots Q (F0 m (pc + 3) ls rest)) : W p l e R s m args below meth c H locs cells slots Q (F0 m pc ls (.ref a :: rest)) := by
  refine W.objInit C.1 C.2.1 C.2.2.2.1 (C.2.2.2.2.1 _ h1) (C.2.2.2.2.1 _ h2) (C.2.2.2.2.1 _ h3) rfl (by rw [C.2.2.1]; exact hsize) rfl hdg hframes ?_ ?_
  · show 2 * 0 + (rest.map fun v => v.category).sum + 12 ≤ R.locals
    omega
  · exact kk
theorem gPutF {ref : String} {T : u_T} {N ci : Nat} {a : Nat} (C : gCx p s m args meth c cc nL Ts own ret E A) (hnm9 : meth.name = "<init>") (hin : ∀ w ∈ u_ws Cn T N, w ∈ Ts) (ty0 : Nat → FieldType) (hty : ∀ k, k < N → parseFieldDescriptor (T k).2.2.1 = some (ty0 k)) (hnm : ∀ a, a < N → ∀ b, b < N → a ≠ b → (T a).2.1 ≠ (T b).2.1) (hO : gO E A s ws H locs) (q0 : Nat) {fs : List Value} (he : ws[q0]? = some (a, .inr (ci, fs))) (hc : vwCl[ci]? = some (Cn, T, N)) (k : Nat) (hk : k < N) (hlink : Cond.fieldLink own index ref (T k).2.1 (T k).2.2.1 ∈ Ts) (hsame : ∀ x, s.fieldFound? (T k).1 (T k).2.1 (T k).2.2.1 = some x → s.fieldFound? ref (T k).2.1 (T k).2.2.1 = some x) (hfin : (T k).2.2.2 = true) (hdecl : (T k).1 = own) {v : Value} (hd : parseFieldDescriptor (T k).2.2.1 = some (ty0 k)) (hn : narrow (ty0 k) v = v) (hfit : fits (ty0 k) v = true) (hl : k < fs.length) (hw : ws.set q0 (a, .inr (ci, fs.set k v)) = ws')
    (hdg : decode cc pc = .ok (.putfield index, 3)) (kk : ∀ (H1 : Heap) (locs1 : List Loc), gO E A s ws' H1 locs1 → W p l e R s m args below meth c H1 locs1 cells slots Q (F0 m (pc + 3) ls rest)) : W p l e R s m args below meth c H locs cells slots Q (F0 m pc ls (v :: .ref a :: rest)) :=
  va_putF C.1 C.2.1 C.2.2.2.2.1 hin ty0 hty hnm C.2.2.2.1 C.2.2.2.2.2.2.2.1.1 hO.1 hO.2.1 hO.2.2 q0 he hc k hk (C.2.2.2.2.1 _ hlink) hsame hfin hnm9 hdecl hd hn hfit hl hdg (fun H1 locs1 hP hD hS => kk H1 locs1 ⟨hw ▸ hP, hw ▸ hD, hS⟩)
theorem gNewO {W0 F : va_W} {C0 : String} {T : u_T} {N ci : Nat} {fs : List Value} (C : gCx p s m args meth c cc nL Ts own ret E A) (hin : ∀ w ∈ u_ws C0 T N, w ∈ Ts) (ty0 : Nat → FieldType) (hty : ∀ k, k < N → parseFieldDescriptor (T k).2.2.1 = some (ty0 k)) (h1 : Cond.classLink own index C0 ∈ Ts) (h2 : Cond.instantiable C0 N ∈ Ts) (h3 : Cond.initialized C0 ∈ Ts) (hO : gO E A s (W0 ++ F) H locs) (hc : vwCl[ci]? = some (C0, T, N)) (hfs : ∀ j, j < N → defaultValue (ty0 j) = vp_V fs j) (hcells : cells + 1 ≤ R.cells) (hslots : slots + N ≤ R.slots) (hdg : decode cc pc = .ok (.new index, 3))
    (kk : ∀ (q : Nat) (H1 : Heap), gO E A s (W0 ++ ((q, .inr (ci, fs)) :: F)) H1 locs → W p l e R s m args below meth c H1 locs (cells + 1) (slots + N) Q (F0 m (pc + 3) ls (.ref q :: rest))) : W p l e R s m args below meth c H locs cells slots Q (F0 m pc ls rest) :=
  va_new C.1 C.2.1 C.2.2.2.2.1 hin ty0 hty C.2.2.2.1 (C.2.2.2.2.1 _ h1) (C.2.2.2.2.1 _ h2) (C.2.2.2.2.1 _ h3) C.2.2.2.2.2.2.2.1.1 hO.1 hO.2.1 hO.2.2 C.2.2.2.2.2.2.2.2.1 hc hfs hcells hslots hdg (fun q H1 hP hD hS => kk q H1 (gO.new ⟨hP, hD, hS⟩))
theorem gClsO {C9 : String} {cA : ClassId} {tys : List (ClassId × FieldType)} (hK : va_K E.1 vwCl (tys ++ [(cA, .object C9)]) s) {k : Nat} {cB : ClassId} (hk : tys[k]? = some (cB, .object C9)) : cA = cB := by
  have hlt := (List.getElem?_eq_some_iff.mp hk).1
  obtain ⟨_, _, _, _, _, q1⟩ := (hK.2 k (cB, .object C9) (by rw [List.getElem?_append_left hlt]; exact hk)).2
  obtain ⟨_, _, _, _, _, q2⟩ := (hK.2 tys.length (cA, .object C9) (by simp)).2
  exact Option.some.inj (q2.symm.trans q1)
theorem gNewQ {W0 F : va_W} {N9 : Nat} (C : gCx p s m args meth c cc nL Ts own ret E A) (hao : va_AO RX1 s) (h1 : Cond.classLink own index RX1 ∈ Ts) (hO : gO E A s (W0 ++ F) H locs) (hN : N9 < 1000) (hcells : cells + 1 ≤ R.cells) (hslots : slots + N9 ≤ R.slots) (hdg : decode cc pc = .ok (.anewarray index, 3))
    (kk : ∀ (q : Nat) (H1 : Heap), gO E A s (W0 ++ ((q, .inl (eO E, N9, .inr (.inr (.inr (.inr (fun _ => none)))))) :: F)) H1 locs → W p l e R s m args below meth c H1 locs (cells + 1) (slots + N9) Q (F0 m (pc + 3) ls (.ref q :: rest))) : W p l e R s m args below meth c H locs cells slots Q (F0 m pc ls (.int (nI N9) :: rest)) := by
  refine va_newq (N' := N9) C.1 C.2.1 C.2.2.2.1 (C.2.2.2.2.1 _ h1) hao C.2.2.2.2.2.2.2.1.1 hO.1 hO.2.1 hO.2.2 C.2.2.2.2.2.2.2.2.1 (nI_pos (by omega)) (nI_clamp (by omega)) (by omega) hcells hslots hdg (fun q cA H1 hK hP hD hS => ?_)
  have e := gClsO (E := E) hK (k := 2) (cB := eO E) rfl
  subst e
  exact kk q H1 (gO.new ⟨hP, hD, hS⟩)
theorem gAast {a v j N : Nat} {f : Nat → Option Nat} {vs : List Value} (C : gCx p s m args meth c cc nL Ts own ret E A) (hO : gO E A s ws H locs) (q0 qk : Nat) (ha : ws[q0]? = some (a, .inl (eO E, N, .inr (.inr (.inr (.inr f)))))) (hv : ws[qk]? = some (v, .inr (1, vs))) (hj : j < N) (hN : N ≤ 100) (hw : ws.set q0 (a, .inl (eO E, N, .inr (.inr (.inr (.inr (va_up f j (some v))))))) = ws') (hdg : decode cc pc = .ok (.aastore, 1))
    (kk : ∀ (H1 : Heap) (locs1 : List Loc), gO E A s ws' H1 locs1 → W p l e R s m args below meth c H1 locs1 cells slots Q (F0 m (pc + 1) ls rest)) : W p l e R s m args below meth c H locs cells slots Q (F0 m pc ls (.ref v :: .int (nI j) :: .ref a :: rest)) := by
  refine va_astq C.1 C.2.1 C.2.2.2.2.2.2.2.1.1 hO.1 hO.2.1 hO.2.2 q0 2 qk 1 (r := (RX1, TX1, 5)) ha rfl hv rfl (vp_in_nI hj (by omega)) hdg (fun H1 locs1 hP hD hS => ?_)
  rw [nI_clamp (by omega)] at hP hD
  exact kk H1 locs1 ⟨hw ▸ hP, hw ▸ hD, hS⟩
theorem gCallI (C : gCx p s m args meth c cc nL Ts own ret E A) (hao : va_AO RX1 s) (hO : gO E A s ws H locs) (hM : gMn l E y wl rm ws (.ref b :: As) post wsu mc ms) (cw : CallB R s args own index y bytes maxL none wl rm mc ms n ∧ y.name = "<init>" ∧ (Cond.instanceMethod y).before args s = true) (hn : As.length = n) (hsize : ls.size = nL) (hst : st0 = As.reverse ++ .ref b :: rest) (hW : (rest.map fun v => v.category).sum ≤ 8) (hdg : decode cc pc = .ok (.invokespecial index, 3)) (hf : cells + mc ≤ R.cells ∧ slots + ms ≤ R.slots)
    (kk : ∀ (u : Nat → Nat) (H1 : Heap) (locs1 : List Loc), post u → gO E A s (wsu u) H1 locs1 → W p l e R s m args below meth c H1 locs1 (cells + mc) (slots + ms) Q (F0 m (pc + 3) ls rest)) : W p l e R s m args below meth c H locs cells slots Q (F0 m pc ls st0) := by
  refine va_callv (va_runI (As := As) (rest := rest) C.fix (hM H.size) cw ⟨gPn_blind, fun U hU hW => ⟨rfl, (gPre C hO hU hW (.ref b :: As)).2, va_AO.moved hW.alike hao⟩⟩ rfl hn hsize hst (lv_room hW) hdg hf) hO.2.2 (fun q _ h => gO.free C.2.2.2.2.2.2.2.2.1 hO q h) (gO.free C.2.2.2.2.2.2.2.2.1 hO) (fun u t H1 locs1 ht hvm hw hB hz1 hk1 hS => ?_)
  exact kk u H1 locs1 hw (gBack C hO ht hB hS)
theorem gCallIN (C : gCx p s m args meth c cc nL Ts own ret E A) (hao : va_AO RX1 s) (hO : gO E A s ws H locs) (hM : gMn l E y wl rm ws (.ref b :: As) post wsu mc ms) (cw : va_CN R s args own index y host bytes maxL none wl rm mc ms n ∧ y.name = "<init>" ∧ (Cond.instanceMethod y).before args s = true) (hn : As.length = n) (hsize : ls.size = nL) (hst : st0 = As.reverse ++ .ref b :: rest) (hW : (rest.map fun v => v.category).sum ≤ 8) (hdg : decode cc pc = .ok (.invokespecial index, 3)) (hf : cells + mc ≤ R.cells ∧ slots + ms ≤ R.slots)
    (kk : ∀ (u : Nat → Nat) (H1 : Heap) (locs1 : List Loc), post u → gO E A s (wsu u) H1 locs1 → W p l e R s m args below meth c H1 locs1 (cells + mc) (slots + ms) Q (F0 m (pc + 3) ls rest)) : W p l e R s m args below meth c H locs cells slots Q (F0 m pc ls st0) := by
  refine va_callv (va_runIN (As := As) (rest := rest) C.fix (hM H.size) cw ⟨gPn_blind, fun U hU hW => ⟨rfl, (gPre C hO hU hW (.ref b :: As)).2, va_AO.moved hW.alike hao⟩⟩ rfl hn hsize hst (lv_room hW) hdg hf) hO.2.2 (fun q _ h => gO.free C.2.2.2.2.2.2.2.2.1 hO q h) (gO.free C.2.2.2.2.2.2.2.2.1 hO) (fun u t H1 locs1 ht hvm hw hB hz1 hk1 hS => ?_)
  exact kk u H1 locs1 hw (gBack C hO ht hB hS)
theorem gO.part {X9 cx9 F : va_W} (hO : gO E A s (X9 ++ F) H locs) (is : List Nat) (hn : va_nd is = true) (hs : is.map (fun i => X9[i]?) = cx9.map some) : gO E A s (cx9 ++ F) H locs := ⟨hO.1.part is hs, hO.2.1.part is hn hs, hO.2.2⟩
end GN
theorem xFl_mk (u : Nat → Nat) : va_up (va_up (va_up (va_up (va_up (va_up (fun _ => none) 0 (some (u 11))) 1 (some (u 12))) 2 (some (u 13))) 3 (some (u 14))) 4 (some (u 15))) 5 (some (u 16)) = xFl u := by
  funext i
  by_cases h9 : i < 6
  · rcases (show i = 0 ∨ i = 1 ∨ i = 2 ∨ i = 3 ∨ i = 4 ∨ i = 5 by omega) with rfl | rfl | rfl | rfl | rfl | rfl <;> rfl
  · simp [va_up, xFl, h9, show i ≠ 0 by omega, show i ≠ 1 by omega, show i ≠ 2 by omega, show i ≠ 3 by omega, show i ≠ 4 by omega, show i ≠ 5 by omega]
/-- nothing was done yet -/
abbrev S0 : St := mkS (fun _ => 0) (fun _ => 0) (fun _ => 0) (fun _ => 0) 0 0 0 0 0 0 (fun _ => 0) 0 (fun _ => 0) (fun _ => 0) (fun _ => 0) (fun _ => 0) (fun _ _ => 0)
end
section
theorem bIf {P Q : Prop} [Decidable P] [Decidable Q] (h : P ↔ Q) : (if P then (1 : Int32) else 0) = if Q then 1 else 0 := by
  by_cases q : Q
  · rw [if_pos q, if_pos (h.mpr q)]
  · rw [if_neg q, if_neg (fun z => q (h.mp z))]
theorem bNar {P : Prop} [Decidable P] : narrow .boolean (.int (if P then (1 : Int32) else 0)) = .int (if P then 1 else 0) := by
  by_cases q : P
  · rw [if_pos q]; rfl
  · rw [if_neg q]; rfl
theorem in_lt {i : Int32} {n : Nat} (hn : n < 1000000) : ¬ nI n - 1 < i ↔ i < nI n := by
  have h := pk_sub_toInt (a := n) (b := 1) (by omega) (by omega)
  rw [Int32.lt_iff_toInt_lt, Int32.lt_iff_toInt_lt, show nI n - 1 = nI n - nI 1 from rfl, h, nI_toInt (by omega)]
  omega
theorem in_key {k : Int32} : (¬ k < 0 ∧ ¬ nI 9 < k) ↔ okKey k := by
  have e1 : (nI 9).toInt = 9 := rfl
  have e2 : (10 : Int32).toInt = 10 := rfl
  unfold okKey
  rw [Int32.lt_iff_toInt_lt, Int32.lt_iff_toInt_lt, Int32.lt_iff_toInt_lt, e1, e2]
  omega
theorem in_ship {S : St} {i : Int32} (hsh : s_sh S ≤ 6) : (¬ i < 0 ∧ ¬ nI (s_sh S) - 1 < i) ↔ okShip S i := by
  unfold okShip
  rw [in_lt (by omega)]
theorem in_storm {S : St} {i : Int32} (hsc : s_sc S ≤ 8) : (¬ i < 0 ∧ ¬ nI (s_sc S) - 1 < i) ↔ okStorm S i := by
  unfold okStorm
  rw [in_lt (by omega)]
/-- how many of the first i entries are marked and not less than o -/
def cmo (mk off : Nat → Int32) (o : Int32) : Nat → Nat
  | 0 => 0
  | i + 1 => cmo mk off o i + (if ¬ mk i = 0 ∧ ¬ off i < o then 1 else 0)
theorem cmo_00 {mk off : Nat → Int32} {o : Int32} {i : Nat} (h : mk i = 0) : cmo mk off o (i + 1) = cmo mk off o i := by show cmo mk off o i + _ = _; rw [if_neg (fun q => q.1 h)]; rfl
theorem cmo_0 {mk off : Nat → Int32} {o : Int32} {i : Nat} (h : off i < o) : cmo mk off o (i + 1) = cmo mk off o i := by show cmo mk off o i + _ = _; rw [if_neg (fun q => q.2 h)]; rfl
theorem cmo_1 {mk off : Nat → Int32} {o : Int32} {i : Nat} (h1 : ¬ mk i = 0) (h2 : ¬ off i < o) : cmo mk off o (i + 1) = cmo mk off o i + 1 := by show cmo mk off o i + _ = _; rw [if_pos ⟨h1, h2⟩]
/-- the offsets that are kept grow -/
def s_srt (S : St) : Prop := ∀ i j, i < j → j < s_n S → s_off S i < s_off S j
theorem pf_iff {S : St} (hs : s_srt S) {o : Int32} {i : Nat} (hi : i < s_n S) : pf (s_off S) o (s_n S) ≤ i ↔ ¬ s_off S i < o := by
  refine ⟨fun h => ?_, fun h => ?_⟩
  · have h2 := pf_stop (off := s_off S) (o := o) (n := s_n S) (by omega)
    by_cases he : pf (s_off S) o (s_n S) = i
    · rw [← he]; exact h2
    · have h3 := hs (pf (s_off S) o (s_n S)) i (by omega) hi
      rw [Int32.lt_iff_toInt_lt] at h2 h3 ⊢
      omega
  · by_cases hp : i < pf (s_off S) o (s_n S)
    · exact absurd (pf_lt hp) h
    · omega
theorem cmo_cm {S : St} (hs : s_srt S) {mk : Nat → Int32} {o : Int32} : ∀ i, i ≤ s_n S → cmo mk (s_off S) o i = cm mk (pf (s_off S) o (s_n S)) i := by
  intro i
  induction i with
  | zero => intro _; rfl
  | succ i ih =>
    intro h
    have h2 := pf_iff hs (o := o) (i := i) (by omega)
    unfold cmo cm
    rw [ih (by omega)]
    by_cases hm : mk i = 0
    · rw [if_neg (fun q => q.1 hm), if_neg (fun q => q.2 hm)]
    · by_cases ho : s_off S i < o
      · rw [if_neg (fun q => q.2 ho), if_neg (fun q => (h2.mp q.1) ho)]
      · rw [if_pos ⟨hm, ho⟩, if_pos ⟨h2.mpr ho, hm⟩]
theorem mkU_mkU (g g' mk : Nat → Int32) (n : Nat) : mkU g (mkU g' mk n) n = mkU g mk n := by
  funext i
  unfold mkU
  split <;> rfl
theorem mkU_id {ms : Nat → Int32} {n : Nat} {g : Nat → Int32} (h : ∀ i, i < n → g i = ms i) : mkU g ms n = ms := by
  funext i
  unfold mkU
  split
  · exact h i (by assumption)
  · rfl
theorem s_md_of {S : St} (hs : s_srt S) (mk : Nat → Int32) : mkU (fun i => s_ms S i + nI (cmo mk (s_off S) (s_at S i) (s_n S))) (s_ms S) (s_sh S) = s_md S mk := by
  unfold s_md
  congr 1
  funext i
  rw [cmo_cm hs (s_n S) (Nat.le_refl _)]
theorem oI_lt {o : Option Nat} (h : ∀ i, o = some i → i < 1000000) : (oI o < 0) ↔ o = none := by
  cases o with
  | none => exact ⟨fun _ => rfl, fun _ => by decide⟩
  | some i => exact ⟨fun q => absurd q (nI_pos (by have := h i rfl; omega)), fun q => by cases q⟩
theorem lpO_lt0 {key : Nat → Int32} {k : Int32} {fr t : Nat} (ht : t < 1000000) : (oI (lpO key k fr t) < 0) ↔ lpO key k fr t = none := oI_lt (fun i hi => by have := lpO_some hi; omega)
theorem lpO_nn {key : Nat → Int32} {k : Int32} {fr t : Nat} (ht : t < 1000000) (h : ¬ oI (lpO key k fr t) < 0) : ∃ i, lpO key k fr t = some i ∧ fr ≤ i ∧ i < t ∧ key i = k := by
  rcases lpO_h (rfl : lpO key k fr t = _) with h1 | h1
  · exact absurd ((lpO_lt0 ht).mpr h1) h
  · exact h1
theorem nI_m1neg {t : Nat} (ht : t < 1000000) : nI t - 1 < 0 ↔ t = 0 := by
  have h := lpO_ls (key := fun _ => 0) (k := 0) (fr := 0) (t := t) (by omega) ht
  rw [show nI 0 = 0 from rfl] at h
  rw [h]
  omega
/-- the last place in a longer stretch -/
theorem lpO_down {key : Nat → Int32} {k : Int32} {t : Nat} (ht : 0 < t) : ∀ n, t ≤ n → (lpO key k (t - 1) n ≠ none ↔ (lpO key k t n ≠ none ∨ key (t - 1) = k)) := by
  intro n hn
  refine ⟨fun h => ?_, fun h => ?_⟩
  · cases h1 : lpO key k (t - 1) n with
    | none => exact absurd h1 h
    | some i =>
      obtain ⟨g1, g2, g3⟩ := lpO_some h1
      by_cases hi : i = t - 1
      · right; rw [← hi]; exact g3
      · left
        intro h2
        exact lpO_none h2 i (by omega) g2 g3
  · intro h1
    rcases h with h | h
    · cases h2 : lpO key k t n with
      | none => exact h h2
      | some i =>
        obtain ⟨g1, g2, g3⟩ := lpO_some h2
        exact lpO_none h1 i (by omega) g2 g3
    · exact lpO_none h1 (t - 1) (Nat.le_refl _) (by omega) h
/-- which keys came by in the places from t on -/
def wasF (S : St) (t : Nat) : Nat → Int32 := fun c => if c < 10 ∧ lpO (s_key S) (nI c) t (s_n S) ≠ none then 1 else 0
theorem wasF_n (S : St) : wasF S (s_n S) = fun _ => 0 := by
  funext c
  unfold wasF
  rw [if_neg (fun q => q.2 (lpO_ge (Nat.le_refl _)))]
theorem wasF_s {S : St} {t c0 : Nat} (ht : 0 < t) (htn : t ≤ s_n S) (hc : c0 < 10) (hk : s_key S (t - 1) = nI c0) : upd (wasF S t) c0 1 = wasF S (t - 1) := by
  funext c
  unfold upd wasF
  by_cases h : c = c0
  · subst h
    rw [if_pos rfl, if_pos ⟨hc, (lpO_down ht _ htn).mpr (Or.inr hk)⟩]
  · rw [if_neg h]
    by_cases h10 : c < 10
    · have hne : ¬ s_key S (t - 1) = nI c := fun q => h ((nI_eq (by omega) (by omega)).mp (q.symm.trans hk))
      have hd := lpO_down (key := s_key S) (k := nI c) ht _ htn
      by_cases hl : lpO (s_key S) (nI c) t (s_n S) ≠ none
      · rw [if_pos ⟨h10, hl⟩, if_pos ⟨h10, hd.mpr (Or.inl hl)⟩]
      · rw [if_neg (fun q => hl q.2), if_neg (fun q => (hd.mp q.2).elim hl hne)]
    · rw [if_neg (fun q => h10 q.1), if_neg (fun q => h10 q.1)]
theorem wasF_1 {S : St} {t c0 : Nat} (h : ¬ wasF S t c0 = 0) : lpO (s_key S) (nI c0) t (s_n S) ≠ none := by
  unfold wasF at h
  by_cases q : c0 < 10 ∧ lpO (s_key S) (nI c0) t (s_n S) ≠ none
  · exact q.2
  · rw [if_neg q] at h; exact absurd rfl h
theorem wasF_0 {S : St} {t c0 : Nat} (hc : c0 < 10) (h : wasF S t c0 = 0) : lpO (s_key S) (nI c0) t (s_n S) = none := by
  unfold wasF at h
  by_cases q : c0 < 10 ∧ lpO (s_key S) (nI c0) t (s_n S) ≠ none
  · rw [if_pos q] at h; exact absurd h (by decide)
  · cases h2 : lpO (s_key S) (nI c0) t (s_n S) with
    | none => rfl
    | some i => exact absurd ⟨hc, by rw [h2]; exact fun z => by cases z⟩ q
/-- g in the places from t to n, mk elsewhere -/
def mkD (g mk : Nat → Int32) (t n : Nat) : Nat → Int32 := fun i => if t ≤ i ∧ i < n then g i else mk i
theorem mkD_n (g mk : Nat → Int32) (n : Nat) : mkD g mk n n = mk := by funext i; unfold mkD; rw [if_neg (by omega)]
theorem mkD_0 (g mk : Nat → Int32) (n : Nat) : mkD g mk 0 n = mkU g mk n := by
  funext i
  unfold mkD mkU
  by_cases h : i < n
  · rw [if_pos h, if_pos ⟨Nat.zero_le _, h⟩]
  · rw [if_neg h, if_neg (fun q => h q.2)]
theorem mkD_s {g mk : Nat → Int32} {t n : Nat} {x : Int32} (ht : 0 < t) (htn : t ≤ n) (h : g (t - 1) = x) : upd (mkD g mk t n) (t - 1) x = mkD g mk (t - 1) n := by
  funext i
  unfold upd mkD
  by_cases hi : i = t - 1
  · subst hi
    rw [if_pos rfl, if_pos ⟨Nat.le_refl _, by omega⟩, h]
  · rw [if_neg hi]
    by_cases h2 : t ≤ i ∧ i < n
    · rw [if_pos h2, if_pos ⟨by omega, h2.2⟩]
    · rw [if_neg h2, if_neg (fun q => h2 ⟨by omega, q.2⟩)]
theorem cm_d1 {mk : Nat → Int32} {t : Nat} (ht : 0 < t) (h : ¬ mk (t - 1) = 0) : ∀ n, t ≤ n → cm mk (t - 1) n = cm mk t n + 1 := by
  intro n
  induction n with
  | zero => intro q; omega
  | succ n ih =>
    intro q
    by_cases hn : t = n + 1
    · have e : t - 1 = n := by omega
      rw [e] at h ⊢
      rw [cm_s1 (Nat.le_refl _) h, cm_fr mk n n (Nat.le_refl _), hn, cm_fr mk (n + 1) (n + 1) (Nat.le_refl _)]
    · by_cases hm : mk n = 0
      · rw [cm_s0 hm, cm_s0 hm, ih (by omega)]
      · rw [cm_s1 (by omega) hm, cm_s1 (by omega) hm, ih (by omega)]
theorem cm_d0 {mk : Nat → Int32} {t : Nat} (ht : 0 < t) (h : mk (t - 1) = 0) : ∀ n, t ≤ n → cm mk (t - 1) n = cm mk t n := by
  intro n
  induction n with
  | zero => intro q; omega
  | succ n ih =>
    intro q
    by_cases hn : t = n + 1
    · have e : t - 1 = n := by omega
      rw [e] at h ⊢
      rw [cm_s0 h, cm_fr mk n n (Nat.le_refl _), hn, cm_fr mk (n + 1) (n + 1) (Nat.le_refl _)]
    · by_cases hm : mk n = 0
      · rw [cm_s0 hm, cm_s0 hm, ih (by omega)]
      · rw [cm_s1 (by omega) hm, cm_s1 (by omega) hm, ih (by omega)]
/-- what a ship knows behind d phrases more, by the last phrase of each key -/
theorem hk_kv {S : St} (hok : s_ok S) {i fr c : Nat} (hc : c < 10) {k0 : Nat → Int32} (h0 : k0 c = s_kn S i c) : ∀ d, fr + d ≤ s_n S → hk (s_key S) (s_val S) fr k0 d c = s_kv S i fr (fr + d) c := by
  intro d
  induction d with
  | zero =>
    intro _
    unfold s_kv
    rw [lpO_ge (show fr + 0 ≤ fr by omega)]
    exact h0
  | succ d ih =>
    intro h
    obtain ⟨g1, g2⟩ := hok (fr + d) (by omega)
    unfold hk upd s_kv
    rw [lpO_s (by omega), show fr + (d + 1) - 1 = fr + d by omega]
    by_cases hcc : c = (s_key S (fr + d)).toNatClampNeg
    · rw [if_pos hcc, hcc, ← g2, if_pos rfl]
    · rw [if_neg hcc, ih (by omega), if_neg (fun q => hcc ((nI_eq (by omega) (by omega)).mp ((q.symm.trans g2))))]
      rfl
theorem S_ps_on {S : St} (hon : ¬ s_on S = 0) (h : Nat) : ∀ i, S_ps S h i = S ∧ s_ph S h i = 0 := by
  intro i
  induction i with
  | zero => exact ⟨rfl, rfl⟩
  | succ i ih =>
    have e : s_dh S h i = 0 := by
      unfold s_dh mhN
      rw [if_neg hon]
      have h1 := pf_le (s_off S) (s_at S i) (s_n S)
      unfold s_to
      omega
    unfold S_ps s_ph
    rw [ih.1, ih.2, e, S_hear_0]
    exact ⟨rfl, rfl⟩
theorem s_un_m0 {S : St} {i : Nat} (h : 0 < s_lag S i) (ho : ¬ s_on S = 0) : s_un S i = -1 := by unfold s_un; rw [if_neg (by omega), if_neg ho]
theorem s_un_m1 {S : St} {i : Nat} (hq : 1 ≤ pN S i) (h : ¬ 0 < s_lag S i ∨ s_on S = 0) : s_un S i = nI ((s_lag S i + pN S i - 1) / pN S i) := by
  unfold s_un
  by_cases hl : s_lag S i = 0
  · rw [if_pos hl, hl, Nat.zero_add, Nat.div_eq_of_lt (by omega)]
    rfl
  · rw [if_neg hl]
    rcases h with h | h
    · omega
    · rw [if_pos h]
theorem fb_m {S : St} {k b : Nat} (h : s_fb S k = some b) : b < k := by
  revert b
  induction k with
  | zero => intro b h; cases h
  | succ k ih =>
    intro b h
    unfold s_fb at h
    cases hb : s_fb S k with
    | none => rw [hb] at h; cases h; omega
    | some z =>
      rw [hb] at h
      have := ih hb
      dsimp only at h
      split at h <;> (cases h; omega)
theorem fb_none {S : St} {k : Nat} (h : s_fb S k = none) : s_fb S (k + 1) = some k := by unfold s_fb; rw [h]
theorem fb_1 {S : St} {k b : Nat} (h : s_fb S k = some b) (hl : s_lag S b < s_lag S k) : s_fb S (k + 1) = some k := by unfold s_fb; rw [h]; exact if_pos hl
theorem fb_0 {S : St} {k b : Nat} (h : s_fb S k = some b) (hl : ¬ s_lag S b < s_lag S k) : s_fb S (k + 1) = s_fb S k := by rw [h]; unfold s_fb; rw [h]; exact if_neg hl
theorem ms_ms {E : gE} {b : Nat → Nat} {S : St} {th : Int32} {mk : Nat → Int32} {F : va_W} (v : Nat → Int32) : (mW E b S th mk ++ F).set 10 (b 10, .inl (eI E, 6, .inl v)) = mW E b (S_ms S v) th mk ++ F := rfl
theorem ms_at {E : gE} {b : Nat → Nat} {S : St} {th : Int32} {mk : Nat → Int32} {F : va_W} (v : Nat → Int32) : (mW E b S th mk ++ F).set 8 (b 8, .inl (eI E, 6, .inl v)) = mW E b (S_at S v) th mk ++ F := rfl
theorem ms_hd {E : gE} {b : Nat → Nat} {S : St} {th : Int32} {mk : Nat → Int32} {F : va_W} (v : Nat → Int32) : (mW E b S th mk ++ F).set 9 (b 9, .inl (eI E, 6, .inl v)) = mW E b (S_hd S v) th mk ++ F := rfl
theorem ms_kn {E : gE} {b : Nat → Nat} {S : St} {th : Int32} {mk : Nat → Int32} {F : va_W} (v : Nat → Nat → Int32) : (mW E b S th mk ++ F).set 11 (b 11, .inl (eI E, 60, .inl (mKn v))) = mW E b (S_kn S v) th mk ++ F := rfl
end
section
-- WHAT STAYS TRUE FROM CALL TO CALL
theorem nx_s9 {x : Int32} (h0 : 0 ≤ x.toInt) (h1 : x.toInt < 2147483647) : (x + 1).toInt = x.toInt + 1 := by
  rw [Int32.toInt_add, show (1 : Int32).toInt = 1 from rfl]
  exact Int.bmod_eq_of_le (by omega) (by omega)
def ky9 (k : Int32) : Prop := k.toNatClampNeg < 10 ∧ k = nI k.toNatClampNeg
/-- the log's own -/
def lgI (S : St) (B : Int) : Prop := s_n S ≤ 48 ∧ (∀ i, i < s_n S → ky9 (s_key S i)) ∧ (∀ i j, i < j → j < s_n S → (s_off S i).toInt < (s_off S j).toInt) ∧ (∀ i, i < s_n S → 0 ≤ (s_off S i).toInt ∧ (s_off S i).toInt < (s_nx S).toInt) ∧ 0 ≤ (s_nx S).toInt ∧ (s_nx S).toInt ≤ B
/-- the storms' and the ships' -/
def flI (S : St) : Prop := s_sh S ≤ 6 ∧ s_sc S ≤ 8 ∧ (¬ s_on S = 0 → 1 ≤ s_sc S) ∧ (s_on S = 0 ∨ s_on S = 1) ∧ s_okp S
def lwI (S : St) (B : Int) : Prop := lgI S B ∧ flI S
theorem pf09 {off : Nat → Int32} {n : Nat} (h : ∀ i, i < n → 0 ≤ (off i).toInt) : pf off 0 n = 0 := by
  by_cases hz : pf off 0 n = 0
  · exact hz
  · have h1 : 0 < pf off 0 n := Nat.pos_of_ne_zero hz
    have h2 := pf_lt h1
    have h3 := h 0 (by have := pf_le off 0 n; omega)
    rw [Int32.lt_iff_toInt_lt, show (0 : Int32).toInt = 0 from rfl] at h2
    omega
theorem lwI.inv {S : St} {B : Int} (h : lwI S B) : s_inv S := ⟨h.1.1, h.2.1, h.2.2.1, h.2.2.2.1, h.2.2.2.2.1, h.1.2.1, h.2.2.2.2.2, pf09 (fun i hi => (h.1.2.2.2.1 i hi).1)⟩
theorem lgI.srt {S : St} {B : Int} (h : lgI S B) : s_srt S := fun i j h1 h2 => Int32.lt_iff_toInt_lt.mpr (h.2.2.1 i j h1 h2)
theorem lgI.mono {S : St} {B B9 : Int} (h : lgI S B) (hb : B ≤ B9) : lgI S B9 := ⟨h.1, h.2.1, h.2.2.1, h.2.2.2.1, h.2.2.2.2.1, Int.le_trans h.2.2.2.2.2 hb⟩
theorem lwI.mono {S : St} {B B9 : Int} (h : lwI S B) (hb : B ≤ B9) : lwI S B9 := ⟨h.1.mono hb, h.2⟩
theorem lgI.same {S T : St} {B : Int} (h : lgI S B) (h1 : s_n T = s_n S) (h2 : s_off T = s_off S) (h3 : s_key T = s_key S) (h4 : s_nx T = s_nx S) : lgI T B := by
  unfold lgI at h ⊢
  rw [h1, h2, h3, h4]
  exact h
theorem flI.same {S T : St} (h : flI S) (h1 : s_sh T = s_sh S) (h2 : s_sc T = s_sc S) (h3 : s_on T = s_on S) (h4 : s_pc T = s_pc S) : flI T := by
  unfold flI s_okp at h ⊢
  unfold pN at h ⊢
  rw [h1, h2, h3, h4]
  exact h
/-- what a drop keeps, it keeps in order -/
theorem cp_sig (g : Nat → Int32) : ∀ n, ∃ sg : Nat → Nat, (∀ j, j < cpN g n → sg j < n) ∧ (∀ i j, i < j → j < cpN g n → sg i < sg j) ∧ ∀ (f : Nat → Int32) (j : Nat), j < cpN g n → cpF g f n j = f (sg j) := by
  intro n
  induction n with
  | zero => exact ⟨fun j => j, fun j hj => absurd hj (Nat.not_lt_zero _), fun i j _ hj => absurd hj (Nat.not_lt_zero _), fun f j hj => absurd hj (Nat.not_lt_zero _)⟩
  | succ n ih9 =>
    obtain ⟨sg, h1, h2, h3⟩ := ih9
    by_cases hm : g n = 0
    · rw [cp_s1 hm]
      refine ⟨fun j => if j = cpN g n then n else sg j, fun j hj => ?_, fun i j hij hj => ?_, fun f j hj => ?_⟩
      · by_cases e9 : j = cpN g n
        · simp [e9]
        · have := h1 j (by omega)
          simp only [if_neg e9]
          omega
      · by_cases e9 : j = cpN g n
        · have := h1 i (by omega)
          simp only [if_pos e9, if_neg (show ¬ i = cpN g n by omega)]
          omega
        · simp only [if_neg e9, if_neg (show ¬ i = cpN g n by omega)]
          exact h2 i j hij (by omega)
      · rw [cf_s1 hm]
        by_cases e9 : j = cpN g n
        · simp only [upd, if_pos e9]
          exact cpF_ge g f n n (cpN_le g n) (Nat.le_refl _)
        · simp only [upd, if_neg e9]
          exact h3 f j (by omega)
    · rw [cp_s0 hm]
      refine ⟨sg, fun j hj => ?_, h2, fun f j hj => ?_⟩
      · have := h1 j hj
        omega
      · rw [cf_s0 hm]
        exact h3 f j hj
theorem lgI.drop {S : St} {B : Int} (h : lgI S B) (g : Nat → Int32) : lgI (S_drop S g) B := by
  obtain ⟨a1, a2, a3, a4, a5, a6⟩ := h
  obtain ⟨sg, h1, h2, h3⟩ := cp_sig g (s_n S)
  have hle := cpN_le g (s_n S)
  refine ⟨show cpN g (s_n S) ≤ 48 by omega, fun i hi => ?_, fun i j hij hj => ?_, fun i hi => ?_, a5, a6⟩
  · have hi : i < cpN g (s_n S) := hi
    show ky9 (cpF g (s_key S) (s_n S) i)
    rw [h3 (s_key S) i hi]
    exact a2 _ (h1 i hi)
  · have hj : j < cpN g (s_n S) := hj
    show (cpF g (s_off S) (s_n S) i).toInt < (cpF g (s_off S) (s_n S) j).toInt
    rw [h3 (s_off S) i (by omega), h3 (s_off S) j hj]
    exact a3 _ _ (h2 i j hij hj) (h1 j hj)
  · have hi : i < cpN g (s_n S) := hi
    show 0 ≤ (cpF g (s_off S) (s_n S) i).toInt ∧ (cpF g (s_off S) (s_n S) i).toInt < (s_nx S).toInt
    rw [h3 (s_off S) i hi]
    exact a4 _ (h1 i hi)
theorem lgI.app {S : St} {B : Int} (h : lgI S B) (hn : s_n S < 48) (hB : B < 2147483647) {k : Int32} (hk9 : ky9 k) (v t : Int32) : lgI (S_app S k v t) (B + 1) := by
  obtain ⟨a1, a2, a3, a4, a5, a6⟩ := h
  have e9 := nx_s9 a5 (by omega)
  refine ⟨show s_n S + 1 ≤ 48 by omega, fun i hi => ?_, fun i j hij hj => ?_, fun i hi => ?_, ?_, ?_⟩
  · have hi : i < s_n S + 1 := hi
    show ky9 (upd (s_key S) (s_n S) k i)
    by_cases q9 : i = s_n S
    · simp only [upd, if_pos q9]; exact hk9
    · simp only [upd, if_neg q9]; exact a2 i (by omega)
  · have hj : j < s_n S + 1 := hj
    show (upd (s_off S) (s_n S) (s_nx S) i).toInt < (upd (s_off S) (s_n S) (s_nx S) j).toInt
    simp only [upd, if_neg (show ¬ i = s_n S by omega)]
    by_cases q9 : j = s_n S
    · simp only [if_pos q9]; exact (a4 i (by omega)).2
    · simp only [if_neg q9]; exact a3 i j hij (by omega)
  · have hi : i < s_n S + 1 := hi
    show 0 ≤ (upd (s_off S) (s_n S) (s_nx S) i).toInt ∧ (upd (s_off S) (s_n S) (s_nx S) i).toInt < (s_nx S + 1).toInt
    rw [e9]
    by_cases q9 : i = s_n S
    · simp only [upd, if_pos q9]; omega
    · simp only [upd, if_neg q9]; have := a4 i (by omega); omega
  · show 0 ≤ (s_nx S + 1).toInt
    omega
  · show (s_nx S + 1).toInt ≤ B + 1
    omega
theorem lgI.room {S : St} {B : Int} (h : lgI S B) : lgI (S_room S) B := by
  unfold S_room
  split
  · exact h
  · exact h.drop gFirst
theorem lgI.cntd {S : St} {B : Int} (h : lgI S B) : lgI (S_cntd S) B := by
  unfold S_cntd
  split
  · exact h
  · exact h.same rfl rfl rfl rfl
theorem S_cntd_n (S : St) : s_n (S_cntd S) = s_n S := by
  unfold S_cntd
  split <;> rfl
theorem lgI.spk {S : St} {B : Int} (h : lgI S B) (hB : B < 2147483647) {k : Int32} (hk9 : ky9 k) (v : Int32) : lgI (S_spk S k v) (B + 1) := by
  unfold S_spk
  exact h.room.cntd.app (by rw [S_cntd_n]; exact S_room_n h.1) hB hk9 v _
theorem flI.spk {S : St} (h : flI S) (k v : Int32) : flI (S_spk S k v) := by
  obtain ⟨h1, h2, h3, -, -, h6⟩ := S_spk_keep S k v
  exact h.same h3 h1 h2 h6
theorem lwI.spk {S : St} {B : Int} (h : lwI S B) (hB : B < 2147483647) {k : Int32} (hk9 : ky9 k) (v : Int32) : lwI (S_spk S k v) (B + 1) := ⟨h.1.spk hB hk9 v, h.2.spk k v⟩
theorem lwI.drop {S : St} {B : Int} (h : lwI S B) (g : Nat → Int32) : lwI (S_drop S g) B := ⟨h.1.drop g, h.2.same rfl rfl rfl rfl⟩
theorem lwI.rp {S : St} {B : Int} (h : lwI S B) (ks vs : Nat → Int32) : ∀ n, (∀ i, i < n → ky9 (ks i)) → B + n ≤ 2147483647 → lwI (S_rp S ks vs n) (B + n) := by
  intro n
  induction n with
  | zero => intro _ _; exact h.mono (by omega)
  | succ n ih9 =>
    intro h1 h2
    have h3 := ih9 (fun i hi => h1 i (by omega)) (by omega)
    exact (h3.spk (by omega) (h1 n (by omega)) (vs n)).mono (by omega)
theorem fl_mem9 (f sto : Nat → Int32) (x : Int32) (g : Nat → Int32) : ∀ n i, i < cnt sto x n → ∃ j, j < n ∧ flF f sto x g n i = f j := by
  intro n
  induction n with
  | zero => intro i hi; exact absurd hi (Nat.not_lt_zero _)
  | succ n ih9 =>
    intro i hi
    by_cases hc9 : sto n = x
    · rw [cnt_s1 hc9] at hi
      rw [fl_s1 hc9]
      by_cases q9 : i = cnt sto x n
      · exact ⟨n, by omega, by simp only [upd, if_pos q9]⟩
      · obtain ⟨j, h1, h2⟩ := ih9 i (by omega)
        exact ⟨j, by omega, by simp only [upd, if_neg q9]; exact h2⟩
    · rw [cnt_s0 hc9] at hi
      rw [fl_s0 hc9]
      obtain ⟨j, h1, h2⟩ := ih9 i hi
      exact ⟨j, by omega, h2⟩
theorem cnt_le9 (f : Nat → Int32) (x : Int32) : ∀ n, cnt f x n ≤ n := by
  intro n
  induction n with
  | zero => exact Nat.le_refl _
  | succ n ih9 =>
    by_cases hc9 : f n = x
    · rw [cnt_s1 hc9]; omega
    · rw [cnt_s0 hc9]; omega
theorem lwI.rk {S : St} {B : Int} (h : lwI S B) (x : Int32) : ∀ i, i < cnt (s_sto S) x (s_n S) → ky9 (s_rk S x i) := by
  intro i hi
  obtain ⟨j, h1, h2⟩ := fl_mem9 (s_key S) (s_sto S) x (fun _ => 0) (s_n S) i hi
  show ky9 (flF (s_key S) (s_sto S) x (fun _ => 0) (s_n S) i)
  rw [h2]
  exact h.1.2.1 j h1
theorem lwI.rpl {S : St} {B : Int} (h : lwI S B) (hB : B + 48 < 2147483647) (x : Int32) : lwI (S_rpl S x) (B + 48) := by
  have h1 := cnt_le9 (s_sto S) x (s_n S)
  have h2 := h.1.1
  exact (h.rp (s_rk S x) (s_rv S x) _ (h.rk x) (by omega)).mono (by omega)
theorem lwI.rps {S : St} {B : Int} (h : lwI S B) (hB : B + 48 < 2147483647) (x : Int32) : ∀ i, i < cnt (s_sto S) x (s_n S) → s_srt (S_rp S (s_rk S x) (s_rv S x) i) := by
  intro i hi
  have h1 := cnt_le9 (s_sto S) x (s_n S)
  have h2 := h.1.1
  exact (h.rp (s_rk S x) (s_rv S x) i (fun j hj => h.rk x j (by omega)) (by omega)).1.srt
theorem lwI.storm1 {S : St} {B : Int} (h : lwI S B) (hs : s_sc S < 8) : lwI (S_storm S 1 (s_sc S + 1)) B := by
  obtain ⟨hg9, a1, a2, a3, a4, a5⟩ := h
  exact ⟨hg9.same rfl rfl rfl rfl, a1, show s_sc S + 1 ≤ 8 by omega, fun _ => show 1 ≤ s_sc S + 1 by omega, Or.inr rfl, a5⟩
theorem lwI.storm0 {S : St} {B : Int} (h : lwI S B) : lwI (S_storm S 0 (s_sc S)) B := by
  obtain ⟨hg9, a1, a2, a3, a4, a5⟩ := h
  exact ⟨hg9.same rfl rfl rfl rfl, a1, a2, fun q9 => absurd rfl q9, Or.inl rfl, a5⟩
theorem lwI.ship {S : St} {B : Int} (h : lwI S B) {q o : Int32} (hp9 : okPace q) (hs : s_sh S < 6) : lwI (S_ship S q o) B := by
  obtain ⟨hg9, a1, a2, a3, a4, a5⟩ := h
  refine ⟨hg9.same rfl rfl rfl rfl, show s_sh S + 1 ≤ 6 by omega, a2, a3, a4, fun i hi => ?_⟩
  have hi : i < s_sh S + 1 := hi
  show 1 ≤ (upd (s_pc S) (s_sh S) q i).toNatClampNeg ∧ (upd (s_pc S) (s_sh S) q i).toNatClampNeg ≤ 5 ∧ upd (s_pc S) (s_sh S) q i = nI (upd (s_pc S) (s_sh S) q i).toNatClampNeg
  by_cases q9 : i = s_sh S
  · simp only [upd, if_pos q9]
    have hp1 := hp9.1
    have hp2 := hp9.2
    have h0 : ¬ q < 0 := by
      rw [Int32.lt_iff_toInt_lt] at hp1 ⊢
      have e0 : (0 : Int32).toInt = 0 := rfl
      have e1 : (1 : Int32).toInt = 1 := rfl
      omega
    have h6 : q < nI 6 := by
      rw [Int32.lt_iff_toInt_lt] at hp2 ⊢
      have e5 : (5 : Int32).toInt = 5 := rfl
      have e6 : (nI 6).toInt = 6 := rfl
      omega
    obtain ⟨b1, b2⟩ := okNat (n := 6) (by omega) h0 h6
    refine ⟨?_, by omega, b2⟩
    by_cases z9 : q.toNatClampNeg = 0
    · rw [z9] at b2
      rw [b2] at hp1
      exact absurd (by decide) hp1
    · omega
  · simp only [upd, if_neg q9]
    exact a5 i (by omega)
theorem lwI.at_ {S : St} {B : Int} (h : lwI S B) (v : Nat → Int32) : lwI (S_at S v) B := ⟨h.1.same rfl rfl rfl rfl, h.2.same rfl rfl rfl rfl⟩
theorem S_ps_keep2 (S : St) (h : Nat) : ∀ i, s_nx (S_ps S h i) = s_nx S ∧ s_sc (S_ps S h i) = s_sc S := by
  intro i
  induction i with
  | zero => exact ⟨rfl, rfl⟩
  | succ i ih9 => exact ih9
theorem lwI.pass {S : St} {B : Int} (h : lwI S B) (x : Int32) : lwI (S_pass S x) B := by
  obtain ⟨h1, h2, h3, h4, h5, h6, -⟩ := S_ps_keep S x.toNatClampNeg (s_sh S)
  obtain ⟨h7, h8⟩ := S_ps_keep2 S x.toNatClampNeg (s_sh S)
  exact ⟨h.1.same h3 h1 h2 h7, h.2.same h4 h8 h6 h5⟩
theorem lwI_0 : lwI S0 0 := ⟨⟨by decide, fun i hi => absurd hi (Nat.not_lt_zero _), fun i j _ hj => absurd hj (Nat.not_lt_zero _), fun i hi => absurd hi (Nat.not_lt_zero _), by decide, by decide⟩, by decide, by decide, fun q9 => absurd rfl q9, Or.inl rfl, fun i hi => absurd hi (Nat.not_lt_zero _)⟩
end
section
-- THE LAW'S OWN LOG: rows of rows
section SW
def shC (E : gE) (ra : Nat → Nat) (sr : Nat → Nat → Int32) (k : Nat) : va_W := (List.range k).map (fun i => (ra i, .inl (eI E, 14, .inl (sr i))))
theorem shC_at {E : gE} {ra : Nat → Nat} {sr : Nat → Nat → Int32} {k i : Nat} {G : va_W} (hi : i < k) : (shC E ra sr k ++ G)[i]? = some (ra i, .inl (eI E, 14, .inl (sr i))) := by
  unfold shC
  rw [List.getElem?_append_left (by simpa using hi)]
  simp [hi]
theorem shC_set {E : gE} {ra : Nat → Nat} {sr : Nat → Nat → Int32} {k i : Nat} {G : va_W} (hi : i < k) (g : Nat → Int32) : (shC E ra sr k ++ G).set i (ra i, .inl (eI E, 14, .inl g)) = shC E ra (va_up sr i g) k ++ G := by
  refine List.ext_getElem? (fun j => ?_)
  rw [List.getElem?_set]
  by_cases hj : i = j
  · subst hj
    have hl : i < (shC E ra sr k ++ G).length := by unfold shC; simp; omega
    rw [if_pos rfl, if_pos hl, shC_at hi]
    simp [va_up]
  · rw [if_neg hj]
    by_cases hk : j < k
    · rw [shC_at hk, shC_at hk]
      simp [va_up, Ne.symm hj]
    · unfold shC
      rw [List.getElem?_append_right (by simp; omega), List.getElem?_append_right (by simp; omega)]
      simp
theorem shC_push {E : gE} {ra : Nat → Nat} {sr : Nat → Nat → Int32} {k q : Nat} {f : Nat → Int32} {G : va_W} : shC E ra sr k ++ ((q, .inl (eI E, 14, .inl f)) :: G) = shC E (va_up ra k q) (va_up sr k f) (k + 1) ++ G := by
  refine List.ext_getElem? (fun j => ?_)
  by_cases hk : j < k
  · rw [shC_at hk, shC_at (by omega)]
    simp [va_up, show j ≠ k by omega]
  · unfold shC
    rw [List.getElem?_append_right (by simp; omega)]
    simp only [List.length_map, List.length_range]
    by_cases hj : j = k
    · subst hj
      rw [List.getElem?_append_left (by simp)]
      simp [va_up]
    · rw [List.getElem?_append_right (by simp; omega)]
      simp only [List.length_map, List.length_range]
      obtain ⟨z, rfl⟩ : ∃ z, j = k + 1 + z := ⟨j - (k + 1), by omega⟩
      rw [show k + 1 + z - k = z + 1 by omega, show k + 1 + z - (k + 1) = z by omega]
      rfl
/-- the law's own log: 0 itself, 1 the rows of phrases, 2 said, 3 the rows of ships; then the ships' rows, then the phrases' -/
def sR (E : gE) (o b1 b2 b3 : Nat) (hr nx dr on : Int32) (n : Nat) (lf : Nat → Option Nat) (sc : Nat) (sd : Nat → Int32) (sh : Nat) (sf : Nat → Option Nat) (G : va_W) : va_W :=
  (o, .inr (3, [.int hr, .int nx, .int dr, .int on, .ref b1, .ref b2, .ref b3])) :: (b1, .inl (eL E, n, .inr (.inr (.inr (.inr lf))))) :: (b2, .inl (eI E, sc, .inl sd)) :: (b3, .inl (eL E, sh, .inr (.inr (.inr (.inr sf))))) :: G
/-- .. as its object's row has just been put: another array is told there than stands at its place -/
def sQ (E : gE) (o r1 r2 r3 b1 b2 b3 : Nat) (hr nx dr on : Int32) (n : Nat) (lf : Nat → Option Nat) (sc : Nat) (sd : Nat → Int32) (sh : Nat) (sf : Nat → Option Nat) (G : va_W) : va_W :=
  (o, .inr (3, [.int hr, .int nx, .int dr, .int on, .ref r1, .ref r2, .ref r3])) :: (b1, .inl (eL E, n, .inr (.inr (.inr (.inr lf))))) :: (b2, .inl (eI E, sc, .inl sd)) :: (b3, .inl (eL E, sh, .inr (.inr (.inr (.inr sf))))) :: G
/-- what is not told of the state: where its cells lie, what lies in its rows -/
abbrev Dt : Type := Nat × Nat × Nat × (Nat → Option Nat) × (Nat → Int32) × (Nat → Option Nat) × (Nat → Nat) × (Nat → Nat → Int32) × va_W
abbrev d_1 (d : Dt) : Nat := d.1
abbrev d_2 (d : Dt) : Nat := d.2.1
abbrev d_3 (d : Dt) : Nat := d.2.2.1
abbrev d_l (d : Dt) : Nat → Option Nat := d.2.2.2.1
abbrev d_s (d : Dt) : Nat → Int32 := d.2.2.2.2.1
abbrev d_f (d : Dt) : Nat → Option Nat := d.2.2.2.2.2.1
abbrev d_a (d : Dt) : Nat → Nat := d.2.2.2.2.2.2.1
abbrev d_r (d : Dt) : Nat → Nat → Int32 := d.2.2.2.2.2.2.2.1
abbrev d_p (d : Dt) : va_W := d.2.2.2.2.2.2.2.2
abbrev mkD9 (b1 b2 b3 : Nat) (lf : Nat → Option Nat) (sd : Nat → Int32) (sf : Nat → Option Nat) (ra : Nat → Nat) (sr : Nat → Nat → Int32) (pl : va_W) : Dt := (b1, b2, b3, lf, sd, sf, ra, sr, pl)
def sW (E : gE) (o : Nat) (d : Dt) (S : St) (F : va_W) : va_W := sR E o (d_1 d) (d_2 d) (d_3 d) (s_hr S) (s_nx S) (s_dr S) (s_on S) (s_n S) (d_l d) (s_sc S) (d_s d) (s_sh S) (d_f d) (shC E (d_a d) (d_r d) (s_sh S) ++ (d_p d ++ F))
/-- the phrases' rows -/
def lgR (E : gE) (pl : va_W) (lf : Nat → Option Nat) (n : Nat) (off key val sto : Nat → Int32) : Prop := ∀ i, i < n → ∃ (q : Nat) (f : Nat → Int32), lf i = some q ∧ ((q, .inl (eI E, 4, .inl f)) : Nat × va_E) ∈ pl ∧ f 0 = off i ∧ f 1 = key i ∧ f 2 = val i ∧ f 3 = sto i
/-- the ships' rows -/
def shR (sf : Nat → Option Nat) (ra : Nat → Nat) (sr : Nat → Nat → Int32) (sh : Nat) (pc sat hd ms : Nat → Int32) (kn : Nat → Nat → Int32) : Prop := ∀ i, i < sh → sf i = some (ra i) ∧ sr i 0 = pc i ∧ sr i 1 = sat i ∧ sr i 2 = hd i ∧ sr i 3 = ms i ∧ ∀ c, c < 10 → sr i (4 + c) = kn i c
def Rep (E : gE) (d : Dt) (S : St) : Prop := lgR E (d_p d) (d_l d) (s_n S) (s_off S) (s_key S) (s_val S) (s_sto S) ∧ (∀ i, i < s_sc S → d_s d i = s_said S i) ∧ shR (d_f d) (d_a d) (d_r d) (s_sh S) (s_pc S) (s_at S) (s_hd S) (s_ms S) (s_kn S)
theorem lgR.mono {E : gE} {pl pl2 : va_W} {lf : Nat → Option Nat} {n : Nat} {off key val sto : Nat → Int32} (h : lgR E pl lf n off key val sto) (hp : ∀ x ∈ pl, x ∈ pl2) : lgR E pl2 lf n off key val sto := by
  intro i hi
  obtain ⟨q, f, h1, h2, h3⟩ := h i hi
  exact ⟨q, f, h1, hp _ h2, h3⟩
theorem sR_mem {E : gE} {o b1 b2 b3 : Nat} {hr nx dr on : Int32} {n : Nat} {lf : Nat → Option Nat} {sc : Nat} {sd : Nat → Int32} {sh : Nat} {sf : Nat → Option Nat} {G : va_W} {x : Nat × va_E} (h : x ∈ G) : x ∈ sR E o b1 b2 b3 hr nx dr on n lf sc sd sh sf G := .tail _ (.tail _ (.tail _ (.tail _ h)))
theorem pl_mem {E : gE} {ra : Nat → Nat} {sr : Nat → Nat → Int32} {k : Nat} {pl F : va_W} {x : Nat × va_E} (h : x ∈ pl) : x ∈ shC E ra sr k ++ (pl ++ F) := List.mem_append_right _ (List.mem_append_left _ h)
theorem sW_mem {E : gE} {o : Nat} {d : Dt} {S : St} {F : va_W} {x : Nat × va_E} (h : x ∈ d_p d) : x ∈ sW E o d S F := sR_mem (pl_mem h)
end SW
-- CONTRACTS WITH SOMETHING NEW IN THEIR WORLDS
abbrev gQe {T : Type} (E : gE) (A : Nat → Prop) (post : Int32 → T → Prop) (wsu : T → va_W) : Array Value → State → Outcome → State → Prop := va_Qi (S := T) post (fun u => gB E A (wsu u)) A
abbrev gQf {T : Type} (E : gE) (A : Nat → Prop) (post : T → Prop) (wsu : T → va_W) : Array Value → State → Outcome → State → Prop := va_Qv (S := T) post (fun u => gB E A (wsu u)) A
abbrev gQg {T : Type} (E : gE) (A : Nat → Prop) (post : T → Prop) (wsu : T → Nat → va_W) : Array Value → State → Outcome → State → Prop := va_Qr (S := T) post (fun u a => gB E A (wsu u a)) A
def gMe {T : Type} (l : Launch) (E : gE) (y : MethodName) (wl : List Cond) (rm : Room) (ws : va_W) (av : List Value) (post : Int32 → T → Prop) (wsu : T → va_W) (mc ms : Nat) : Prop := ∀ sz : Nat, Met l y wl rm (gP E ws sz av) (gQe E (va_A ws sz) post wsu) mc ms (va_A ws sz)
def gMf {T : Type} (l : Launch) (E : gE) (y : MethodName) (wl : List Cond) (rm : Room) (ws : va_W) (av : List Value) (post : T → Prop) (wsu : T → va_W) (mc ms : Nat) : Prop := ∀ sz : Nat, Met l y wl rm (gP E ws sz av) (gQf E (va_A ws sz) post wsu) mc ms (va_A ws sz)
def gMg {T : Type} (l : Launch) (E : gE) (y : MethodName) (wl : List Cond) (rm : Room) (ws : va_W) (av : List Value) (post : T → Prop) (wsu : T → Nat → va_W) (mc ms : Nat) : Prop := ∀ sz : Nat, Met l y wl rm (gP E ws sz av) (gQg E (va_A ws sz) post wsu) mc ms (va_A ws sz)
section GS
variable {p : Program} {l : Launch} {e : Env} {R : Room} {s : State} {m : MethodId} {args : Array Value} {below : List Frame} {meth : Method} {c : Code} {H : Heap} {locs : List Loc} {cells slots : Nat} {Q : State → Prop}
variable {E : gE} {A : Nat → Prop} {ws ws' : va_W} {y : MethodName} {wl wl' : List Cond} {rm : Room} {av : List Value} {mc ms : Nat} {cc bytes : ByteArray} {maxL nL : Nat} {ret : Option FieldType} {Ts : List Cond} {own : String}
variable {pc : Nat} {ls : Array Slot} {rest : List Value} {index n : Nat} {Cn : String} {b : Nat} {As st0 : List Value} {T : Type}
theorem gMe.of {ty : FieldType} {post : Int32 → T → Prop} {wsu : T → va_W} (hy : plainName y.cls = true) (hw : wl = Cond.code y cc maxL (some ty) :: wl') (hlen : (lg_sl av).length ≤ maxL)
    (body : ∀ p e s m args below meth c A, gCx p s m args meth c cc maxL wl y.cls (some ty) E A → ∀ ls : Array Slot, lv_has ls maxL (lv_args 0 av) → gO E A s ws s.heap [] → W p l e rm s m args below meth c s.heap [] 0 0 (MQ below (gQe E A post wsu) args s mc ms A) (F0 m 0 ls [])) : gMe l E y wl rm ws av post wsu mc ms := by
  intro sz
  refine Met.ofW (cc := cc) (maxL := maxL) (ret := some ty) hy hw ?_
  intro p e s m args below meth c s₁ B hml hv
  obtain ⟨rfl, hsz, hP, eo, hD0, hZ⟩ := hv
  have hts := atoms_spec (ws := wl) B.pre
  have hown : s.vm.findClass y.cls = some m.cls := findClass_of_methodNamed B.named
  subst hsz
  have hl := lv_entry av (n := maxL) hlen
  rw [lg_entry_eq]
  exact body p e s m av.toArray below meth c (va_A ws s.heap.size) ⟨B.exec, B.bytes, hml, hown, hts, B.returns, B.notSynchronized, eo, fun q h => Or.inr h, hZ⟩ _ hl ⟨hP, hD0.self (sz := s.heap.size), va_S.rf⟩
theorem gMf.of {post : T → Prop} {wsu : T → va_W} (hy : plainName y.cls = true) (hw : wl = Cond.code y cc maxL none :: wl') (hlen : (lg_sl av).length ≤ maxL)
    (body : ∀ p e s m args below meth c A, gCx p s m args meth c cc maxL wl y.cls none E A → ∀ ls : Array Slot, lv_has ls maxL (lv_args 0 av) → gO E A s ws s.heap [] → W p l e rm s m args below meth c s.heap [] 0 0 (MQ below (gQf E A post wsu) args s mc ms A) (F0 m 0 ls [])) : gMf l E y wl rm ws av post wsu mc ms := by
  intro sz
  refine Met.ofW (cc := cc) (maxL := maxL) (ret := none) hy hw ?_
  intro p e s m args below meth c s₁ B hml hv
  obtain ⟨rfl, hsz, hP, eo, hD0, hZ⟩ := hv
  have hts := atoms_spec (ws := wl) B.pre
  have hown : s.vm.findClass y.cls = some m.cls := findClass_of_methodNamed B.named
  subst hsz
  have hl := lv_entry av (n := maxL) hlen
  rw [lg_entry_eq]
  exact body p e s m av.toArray below meth c (va_A ws s.heap.size) ⟨B.exec, B.bytes, hml, hown, hts, B.returns, B.notSynchronized, eo, fun q h => Or.inr h, hZ⟩ _ hl ⟨hP, hD0.self (sz := s.heap.size), va_S.rf⟩
theorem gMg.of {ty : FieldType} {post : T → Prop} {wsu : T → Nat → va_W} (hy : plainName y.cls = true) (hw : wl = Cond.code y cc maxL (some ty) :: wl') (hlen : (lg_sl av).length ≤ maxL)
    (body : ∀ p e s m args below meth c A, gCx p s m args meth c cc maxL wl y.cls (some ty) E A → ∀ ls : Array Slot, lv_has ls maxL (lv_args 0 av) → gO E A s ws s.heap [] → W p l e rm s m args below meth c s.heap [] 0 0 (MQ below (gQg E A post wsu) args s mc ms A) (F0 m 0 ls [])) : gMg l E y wl rm ws av post wsu mc ms := by
  intro sz
  refine Met.ofW (cc := cc) (maxL := maxL) (ret := some ty) hy hw ?_
  intro p e s m args below meth c s₁ B hml hv
  obtain ⟨rfl, hsz, hP, eo, hD0, hZ⟩ := hv
  have hts := atoms_spec (ws := wl) B.pre
  have hown : s.vm.findClass y.cls = some m.cls := findClass_of_methodNamed B.named
  subst hsz
  have hl := lv_entry av (n := maxL) hlen
  rw [lg_entry_eq]
  exact body p e s m av.toArray below meth c (va_A ws s.heap.size) ⟨B.exec, B.bytes, hml, hown, hts, B.returns, B.notSynchronized, eo, fun q h => Or.inr h, hZ⟩ _ hl ⟨hP, hD0.self (sz := s.heap.size), va_S.rf⟩
theorem gRe {ty : FieldType} {v : Int32} {post : Int32 → T → Prop} {wsu : T → va_W} (u : T) (C : gCx p s m args meth c cc nL Ts own (some ty) E A) (hO : gO E A s (wsu u) H locs) (hn : narrow ty (.int v) = .int v) (hu : post v u) (hdg : decode cc pc = .ok (.ireturn, 1)) (h1 : cells ≤ mc) (h2 : slots ≤ ms) : W p l e R s m args below meth c H locs cells slots (MQ below (gQe E A post wsu) args s mc ms A) (F0 m pc ls [.int v]) := by
  refine W.widen h1 h2 ?_
  exact W.zret C.1 C.2.1 C.2.2.2.2.2.1 hn (fun t ht hW => ⟨⟨v, u, rfl, hu, by rw [ht]; exact hO.1, hO.2.1⟩, hO.2.2.F ht⟩) hO.2.2.2.2 hdg C.2.2.2.2.2.2.1
theorem gRf {post : T → Prop} {wsu : T → va_W} (u : T) (C : gCx p s m args meth c cc nL Ts own none E A) (hO : gO E A s (wsu u) H locs) (hu : post u) (hdg : decode cc pc = .ok (.return_, 1)) (h1 : cells ≤ mc) (h2 : slots ≤ ms) : W p l e R s m args below meth c H locs cells slots (MQ below (gQf E A post wsu) args s mc ms A) (F0 m pc ls []) := by
  refine W.widen h1 h2 ?_
  exact W.vret C.1 C.2.1 C.2.2.2.2.2.1 (fun t ht hW => ⟨⟨u, rfl, hu, by rw [ht]; exact hO.1, hO.2.1⟩, hO.2.2.F ht⟩) hO.2.2.2.2 hdg C.2.2.2.2.2.2.1
theorem gRg {ty : FieldType} {r : Nat} {post : T → Prop} {wsu : T → Nat → va_W} (u : T) (C : gCx p s m args meth c cc nL Ts own (some ty) E A) (hO : gO E A s (wsu u r) H locs) (hty : (∃ z, ty = .object z) ∨ (∃ z, ty = .array z)) (hu : post u) (hdg : decode cc pc = .ok (.areturn, 1)) (h1 : cells ≤ mc) (h2 : slots ≤ ms) : W p l e R s m args below meth c H locs cells slots (MQ below (gQg E A post wsu) args s mc ms A) (F0 m pc ls [.ref r]) := by
  refine W.widen h1 h2 ?_
  exact W.aret C.1 C.2.1 C.2.2.2.2.2.1 hty (Or.inr ⟨r, rfl⟩) (fun t ht hW => ⟨⟨u, r, rfl, hu, by rw [ht]; exact hO.1, hO.2.1⟩, hO.2.2.F ht⟩) hO.2.2.2.2 hdg C.2.2.2.2.2.2.1
theorem gCall_e {post : Int32 → T → Prop} {wsu : T → va_W} (C : gCx p s m args meth c cc nL Ts own ret E A) (hO : gO E A s ws H locs) (hM : gMe l E y wl rm ws (.ref b :: As) post wsu mc ms) {ret1 : Option FieldType} (cw : CallW R s args own Cn index y bytes maxL ret1 wl rm mc ms n) (hrc : ∃ cell : Cell, H[b]? = some cell ∧ cell.vm.isStatics = false ∧ s.vm.findClass Cn = some cell.cls) (hn : As.length = n) (hsize : ls.size = nL) (hst : st0 = As.reverse ++ .ref b :: rest) (hW : (rest.map fun v => v.category).sum ≤ 8) (hdg : decode cc pc = .ok (.invokevirtual index, 3)) (hf : cells + mc ≤ R.cells ∧ slots + ms ≤ R.slots)
    (kk : ∀ (r : Int32) (u : T) (H1 : Heap) (locs1 : List Loc), post r u → gO E A s (wsu u) H1 locs1 → W p l e R s m args below meth c H1 locs1 (cells + mc) (slots + ms) Q (F0 m (pc + 3) ls (.int r :: rest))) : W p l e R s m args below meth c H locs cells slots Q (F0 m pc ls st0) := by
  refine va_calli (va_runV (As := As) (rest := rest) C.fix (hM H.size) cw ⟨gP_blind, hrc, fun U hU hW => gPre C hO hU hW _⟩ rfl hn hsize hst (lv_room hW) hdg hf) hO.2.2 (fun q _ h => gO.free C.2.2.2.2.2.2.2.2.1 hO q h) (gO.free C.2.2.2.2.2.2.2.2.1 hO) (fun r1 u t H1 locs1 ht hvm hw hB hz1 hk1 hS => ?_)
  exact kk r1 u H1 locs1 hw (gBack C hO ht hB hS)
theorem gCall_f {post : T → Prop} {wsu : T → va_W} (C : gCx p s m args meth c cc nL Ts own ret E A) (hO : gO E A s ws H locs) (hM : gMf l E y wl rm ws (.ref b :: As) post wsu mc ms) {ret1 : Option FieldType} (cw : CallW R s args own Cn index y bytes maxL ret1 wl rm mc ms n) (hrc : ∃ cell : Cell, H[b]? = some cell ∧ cell.vm.isStatics = false ∧ s.vm.findClass Cn = some cell.cls) (hn : As.length = n) (hsize : ls.size = nL) (hst : st0 = As.reverse ++ .ref b :: rest) (hW : (rest.map fun v => v.category).sum ≤ 8) (hdg : decode cc pc = .ok (.invokevirtual index, 3)) (hf : cells + mc ≤ R.cells ∧ slots + ms ≤ R.slots)
    (kk : ∀ (u : T) (H1 : Heap) (locs1 : List Loc), post u → gO E A s (wsu u) H1 locs1 → W p l e R s m args below meth c H1 locs1 (cells + mc) (slots + ms) Q (F0 m (pc + 3) ls rest)) : W p l e R s m args below meth c H locs cells slots Q (F0 m pc ls st0) := by
  refine va_callv (va_runV (As := As) (rest := rest) C.fix (hM H.size) cw ⟨gP_blind, hrc, fun U hU hW => gPre C hO hU hW _⟩ rfl hn hsize hst (lv_room hW) hdg hf) hO.2.2 (fun q _ h => gO.free C.2.2.2.2.2.2.2.2.1 hO q h) (gO.free C.2.2.2.2.2.2.2.2.1 hO) (fun u t H1 locs1 ht hvm hw hB hz1 hk1 hS => ?_)
  exact kk u H1 locs1 hw (gBack C hO ht hB hS)
theorem gCallS_e {post : Int32 → T → Prop} {wsu : T → va_W} (C : gCx p s m args meth c cc nL Ts own ret E A) (hO : gO E A s ws H locs) (hM : gMe l E y wl rm ws As post wsu mc ms) {ret1 : Option FieldType} (cw : CallB R s args own index y bytes maxL ret1 wl rm mc ms n ∧ (Cond.static y).before args s = true) (hn : As.length = n) (hsize : ls.size = nL) (hst : st0 = As.reverse ++ rest) (hW : (rest.map fun v => v.category).sum ≤ 8) (hdg : decode cc pc = .ok (.invokestatic index, 3)) (hf : cells + mc ≤ R.cells ∧ slots + ms ≤ R.slots)
    (kk : ∀ (r : Int32) (u : T) (H1 : Heap) (locs1 : List Loc), post r u → gO E A s (wsu u) H1 locs1 → W p l e R s m args below meth c H1 locs1 (cells + mc) (slots + ms) Q (F0 m (pc + 3) ls (.int r :: rest))) : W p l e R s m args below meth c H locs cells slots Q (F0 m pc ls st0) := by
  refine va_calli (va_runS (As := As) (rest := rest) C.fix (hM H.size) cw ⟨gP_blind, fun U hU hW => gPre C hO hU hW _⟩ rfl hn hsize hst (lv_room hW) hdg hf) hO.2.2 (fun q _ h => gO.free C.2.2.2.2.2.2.2.2.1 hO q h) (gO.free C.2.2.2.2.2.2.2.2.1 hO) (fun r1 u t H1 locs1 ht hvm hw hB hz1 hk1 hS => ?_)
  exact kk r1 u H1 locs1 hw (gBack C hO ht hB hS)
theorem gCallS_g {post : T → Prop} {wsu : T → Nat → va_W} (C : gCx p s m args meth c cc nL Ts own ret E A) (hO : gO E A s ws H locs) (hM : gMg l E y wl rm ws As post wsu mc ms) {ret1 : Option FieldType} (cw : CallB R s args own index y bytes maxL ret1 wl rm mc ms n ∧ (Cond.static y).before args s = true) (hn : As.length = n) (hsize : ls.size = nL) (hst : st0 = As.reverse ++ rest) (hW : (rest.map fun v => v.category).sum ≤ 8) (hdg : decode cc pc = .ok (.invokestatic index, 3)) (hf : cells + mc ≤ R.cells ∧ slots + ms ≤ R.slots)
    (kk : ∀ (u : T) (r : Nat) (H1 : Heap) (locs1 : List Loc), post u → gO E A s (wsu u r) H1 locs1 → W p l e R s m args below meth c H1 locs1 (cells + mc) (slots + ms) Q (F0 m (pc + 3) ls (.ref r :: rest))) : W p l e R s m args below meth c H locs cells slots Q (F0 m pc ls st0) := by
  refine va_callr (va_runS (As := As) (rest := rest) C.fix (hM H.size) cw ⟨gP_blind, fun U hU hW => gPre C hO hU hW _⟩ rfl hn hsize hst (lv_room hW) hdg hf) hO.2.2 (fun q _ h => gO.free C.2.2.2.2.2.2.2.2.1 hO q h) (gO.free C.2.2.2.2.2.2.2.2.1 hO) (fun u r1 t H1 locs1 ht hvm hw hB hz1 hk1 hS => ?_)
  exact kk u r1 H1 locs1 hw (gBack C hO ht hB hS)
-- ROWS OF ROWS
theorem gAaldA {a N : Nat} {f : Nat → Option Nat} {j v : Nat} (C : gCx p s m args meth c cc nL Ts own ret E A) (hO : gO E A s ws H locs) (q0 : Nat) (ha : ws[q0]? = some (a, .inl (eL E, N, .inr (.inr (.inr (.inr f)))))) (hj : j < N) (hN : N ≤ 100) (hv : f j = some v) (hdg : decode cc pc = .ok (.aaload, 1))
    (kk : W p l e R s m args below meth c H locs cells slots Q (F0 m (pc + 1) ls (.ref v :: rest))) : W p l e R s m args below meth c H locs cells slots Q (F0 m pc ls (.int (nI j) :: .ref a :: rest)) := by
  have hK := C.2.2.2.2.2.2.2.1.1
  have hcl : (nI j).toNatClampNeg = j := nI_clamp (by omega)
  have hin := vp_in_nI hj (by omega)
  refine W.aald (v := .ref v) (ty := .array .int) C.1 C.2.1 (hO.1 q0 _ ha) ((hK.2 3 _ rfl).1 N (fun j => va_rf (f j))) rfl (fun q => by cases q) (by show ¬ (nI j < 0 ∨ (arrV _ _ _).slots.size ≤ _); rw [arrV_size]; exact hin) (by show (arrV _ _ _).slots[_]? = _; rw [arrV_read _ _ (by rw [hcl]; exact hj), hcl, hv]; rfl) rfl rfl hdg kk
theorem gAastA {a v j N M : Nat} {f : Nat → Option Nat} {g : Nat → Int32} (C : gCx p s m args meth c cc nL Ts own ret E A) (hO : gO E A s ws H locs) (q0 qk : Nat) (ha : ws[q0]? = some (a, .inl (eL E, N, .inr (.inr (.inr (.inr f)))))) (hv : ws[qk]? = some (v, .inl (eI E, M, .inl g))) (hj : j < N) (hN : N ≤ 100) (hw : ws.set q0 (a, .inl (eL E, N, .inr (.inr (.inr (.inr (va_up f j (some v))))))) = ws') (hdg : decode cc pc = .ok (.aastore, 1))
    (kk : ∀ (H1 : Heap) (locs1 : List Loc), gO E A s ws' H1 locs1 → W p l e R s m args below meth c H1 locs1 cells slots Q (F0 m (pc + 1) ls rest)) : W p l e R s m args below meth c H locs cells slots Q (F0 m pc ls (.ref v :: .int (nI j) :: .ref a :: rest)) := by
  have hK := C.2.2.2.2.2.2.2.1.1
  have hcl : (nI j).toNatClampNeg = j := nI_clamp (by omega)
  obtain ⟨comp, cA, kA, h1, h2, h3, h4, h5⟩ := arrayOverA_spec C.2.2.2.2.2.2.2.1.2.2.2
  have e1 : cA = eL E := Option.some.inj (h5.symm.trans (hK.2 3 _ rfl).2)
  have e2 : comp = eI E := Option.some.inj (h1.symm.trans (hK.2 0 _ rfl).2)
  subst e1
  subst e2
  obtain ⟨-, kC, hkC, -⟩ := (hK.2 0 _ rfl).1 0 (fun _ => .null)
  refine W.aast C.1 C.2.1 (hO.1 q0 _ ha) (fun q h => by cases h) (fun h => by cases h) h3 h4 rfl hkC ⟨nI_pos (by omega), by show _ < (arrV _ _ _).slots.size; rw [arrV_size, hcl]; exact hj⟩ (hO.1 qk _ hv) (fun q h => by cases h) hkC asg_self rfl rfl hdg fun H1 e z oq => ?_
  refine kk H1 _ (hw ▸ ⟨hO.1.set hO.2.1 ha ?_ oq, hO.2.1.set ha, hO.2.2.put z oq (hO.2.1.2 q0 _ ha)⟩)
  show H1[a]? = some (vp_cell _ _)
  rw [e]
  rw [vp_cell_q, vp_cell_q, arrV_store, hcl]
  congr 2
  funext q
  by_cases hq : q = j
  · subst hq
    simp [updV, va_up, va_rf]
  · simp [updV, va_up, hq]
theorem gNewA {W0 F : va_W} {N9 : Nat} (C : gCx p s m args meth c cc nL Ts own ret E A) (h1 : Cond.classLink own index "[I" ∈ Ts) (hO : gO E A s (W0 ++ F) H locs) (hN : N9 < 1000) (hcells : cells + 1 ≤ R.cells) (hslots : slots + N9 ≤ R.slots) (hdg : decode cc pc = .ok (.anewarray index, 3))
    (kk : ∀ (q : Nat) (H1 : Heap), gO E A s (W0 ++ ((q, .inl (eL E, N9, .inr (.inr (.inr (.inr (fun _ => none)))))) :: F)) H1 locs → W p l e R s m args below meth c H1 locs (cells + 1) (slots + N9) Q (F0 m (pc + 3) ls (.ref q :: rest))) : W p l e R s m args below meth c H locs cells slots Q (F0 m pc ls (.int (nI N9) :: rest)) := by
  have hK := C.2.2.2.2.2.2.2.1.1
  have hcl : (nI N9).toNatClampNeg = N9 := nI_clamp (by omega)
  refine W.anewA (t := .int) C.1 C.2.1 C.2.2.2.1 (C.2.2.2.2.1 _ h1) (show (Cond.arrayOver (.array .int)).before args s = true from C.2.2.2.2.2.2.2.1.2.2.2) rfl hdg rfl (nI_pos (by omega)) (by rw [hcl]; omega) hcells (by rw [hcl]; exact hslots) fun cA kA comp f1 f2 f3 f4 => ?_
  have e1 : cA = eL E := Option.some.inj (f1.symm.trans (hK.2 3 _ rfl).2)
  subst e1
  rw [hcl]
  generalize hH1 : H.push ({ cls := eL E, slots := Array.replicate N9 .null, vm := .none } : Cell) = H1
  have z1 : H1.size = H.size + 1 := by rw [← hH1, Array.size_push]
  have e1 : H1[H.size]? = some (arrV (eL E) N9 (fun _ => .null)) := by rw [← hH1, Array.getElem?_push_size, ← arrV_new]
  have o1 : ∀ q : Nat, q < H.size → H1[q]? = H[q]? := fun q hq => by rw [← hH1, Array.getElem?_push, if_neg (Nat.ne_of_lt hq)]
  have hk : ∀ (k : Nat) (x : Nat × va_E), (W0 ++ F)[k]? = some x → H1[x.1]? = H[x.1]? := fun k x hx => o1 x.1 ((hO.1 k x hx).lt)
  refine kk H.size H1 (gO.new ⟨(hO.1.kept hk).app (fun k x hx => ?_), hO.2.1.push hO.1 rfl (C.2.2.2.2.2.2.2.2.1 _ hO.2.2.1), ⟨Nat.le_trans hO.2.2.1 (by omega), fun x g1 g2 => (o1 x (Nat.lt_of_lt_of_le g1 hO.2.2.1)).trans (hO.2.2.2.1 x g1 g2), hO.2.2.2.2⟩⟩)
  have hz : k < 1 := (List.getElem?_eq_some_iff.mp hx).1
  rw [show k = 0 by omega] at hx
  cases hx
  show H1[H.size]? = some (vp_cell _ _)
  rw [vp_cell_q]
  exact e1
-- WORLDS PUT IN ANOTHER ORDER
theorem gO.xf {X9 Y9 F : va_W} (hO : gO E A s (X9 ++ (Y9 ++ F)) H locs) : gO E A s (Y9 ++ (X9 ++ F)) H locs := by
  have e1 : X9 ++ (Y9 ++ F) = ([] ++ X9) ++ (Y9 ++ F) := by simp
  have h1 := hO.1
  have h2 := hO.2.1
  rw [e1] at h1 h2
  have h3 := h1.swap
  have h4 := h2.swap
  rw [show ([] ++ (Y9 ++ F)) ++ X9 = (Y9 ++ F) ++ X9 by simp] at h3 h4
  have h5 := h3.swap
  have h6 := h4.swap
  rw [List.append_assoc] at h5 h6
  exact ⟨h5, h6, hO.2.2⟩
theorem gO.mv {X9 Y9 F : va_W} {x : Nat × va_E} (hO : gO E A s (X9 ++ (x :: (Y9 ++ F))) H locs) : gO E A s (X9 ++ (Y9 ++ (x :: F))) H locs := by
  have e1 : X9 ++ (x :: (Y9 ++ F)) = (X9 ++ [x]) ++ (Y9 ++ F) := by simp
  have h1 := hO.1
  have h2 := hO.2.1
  rw [e1] at h1 h2
  have h3 := h1.swap
  have h4 := h2.swap
  rw [show (X9 ++ (Y9 ++ F)) ++ [x] = ((X9 ++ Y9) ++ F) ++ [x] by simp] at h3 h4
  have h5 := h3.swap
  have h6 := h4.swap
  rw [show ((X9 ++ Y9) ++ [x]) ++ F = X9 ++ (Y9 ++ (x :: F)) by simp] at h5 h6
  exact ⟨h5, h6, hO.2.2⟩
theorem gO.sx {o : Nat} {d : Dt} {S : St} {X9 F : va_W} (hO : gO E A s (sW E o d S (X9 ++ F)) H locs) : gO E A s (X9 ++ sW E o d S F) H locs := by
  have e : ∀ Z : va_W, sW E o d S Z = sW E o d S [] ++ Z := fun Z => by
    unfold sW sR
    simp
  rw [e] at hO
  rw [e F]
  exact hO.xf
theorem gO.xs {o : Nat} {d : Dt} {S : St} {X9 F : va_W} (hO : gO E A s (X9 ++ sW E o d S F) H locs) : gO E A s (sW E o d S (X9 ++ F)) H locs := by
  have e : ∀ Z : va_W, sW E o d S Z = sW E o d S [] ++ Z := fun Z => by
    unfold sW sR
    simp
  rw [e] at hO
  rw [e (X9 ++ F)]
  exact hO.xf
end GS
section GP
variable {E : gE} {A : Nat → Prop} {s : State} {H : Heap} {locs : List Loc} {o b1 b2 b3 q q2 k : Nat} {hr nx dr on : Int32} {n n2 sc sc2 sh sh2 : Nat} {lf g sf sf2 : Nat → Option Nat} {sd sd2 f : Nat → Int32} {ra : Nat → Nat} {sr : Nat → Nat → Int32} {pl F G : va_W} {x : va_E}
theorem gO.log1 (hO : gO E A s (sQ E o q b2 b3 b1 b2 b3 hr nx dr on n lf sc sd sh sf ((q, .inl (eL E, n2, .inr (.inr (.inr (.inr g))))) :: (shC E ra sr k ++ (pl ++ F)))) H locs) : gO E A s (sR E o q b2 b3 hr nx dr on n2 g sc sd sh sf (shC E ra sr k ++ (((b1, .inl (eL E, n, .inr (.inr (.inr (.inr lf))))) :: pl) ++ F))) H locs := by
  have h1 := gO.part (X9 := sQ E o q b2 b3 b1 b2 b3 hr nx dr on n lf sc sd sh sf [(q, .inl (eL E, n2, .inr (.inr (.inr (.inr g)))))]) (cx9 := sR E o q b2 b3 hr nx dr on n2 g sc sd sh sf [(b1, .inl (eL E, n, .inr (.inr (.inr (.inr lf)))))]) hO [0, 4, 2, 3, 1] rfl rfl
  exact gO.mv (X9 := sR E o q b2 b3 hr nx dr on n2 g sc sd sh sf []) (Y9 := shC E ra sr k) (F := pl ++ F) h1
theorem gO.log2 (hO : gO E A s (sQ E o q b2 b3 b1 b2 b3 hr nx dr on n lf sc sd sh sf ((q, .inl (eL E, n2, .inr (.inr (.inr (.inr g))))) :: (q2, x) :: (shC E ra sr k ++ (pl ++ F)))) H locs) : gO E A s (sR E o q b2 b3 hr nx dr on n2 g sc sd sh sf (shC E ra sr k ++ (((q2, x) :: (b1, .inl (eL E, n, .inr (.inr (.inr (.inr lf))))) :: pl) ++ F))) H locs := by
  have h1 := gO.part (X9 := sQ E o q b2 b3 b1 b2 b3 hr nx dr on n lf sc sd sh sf [(q, .inl (eL E, n2, .inr (.inr (.inr (.inr g))))), (q2, x)]) (cx9 := sR E o q b2 b3 hr nx dr on n2 g sc sd sh sf [(q2, x), (b1, .inl (eL E, n, .inr (.inr (.inr (.inr lf)))))]) hO [0, 4, 2, 3, 5, 1] rfl rfl
  have h2 := gO.mv (X9 := sR E o q b2 b3 hr nx dr on n2 g sc sd sh sf [(q2, x)]) (Y9 := shC E ra sr k) (F := pl ++ F) h1
  exact gO.mv (X9 := sR E o q b2 b3 hr nx dr on n2 g sc sd sh sf []) (Y9 := shC E ra sr k) (F := (b1, .inl (eL E, n, .inr (.inr (.inr (.inr lf))))) :: (pl ++ F)) h2
theorem gO.said1 (hO : gO E A s (sQ E o b1 q b3 b1 b2 b3 hr nx dr on n lf sc sd sh sf ((q, .inl (eI E, sc2, .inl sd2)) :: G)) H locs) : gO E A s (sR E o b1 q b3 hr nx dr on n lf sc2 sd2 sh sf G) H locs :=
  gO.part (X9 := sQ E o b1 q b3 b1 b2 b3 hr nx dr on n lf sc sd sh sf [(q, .inl (eI E, sc2, .inl sd2))]) (cx9 := sR E o b1 q b3 hr nx dr on n lf sc2 sd2 sh sf []) hO [0, 1, 4, 3] rfl rfl
theorem gO.ships2 (hO : gO E A s (sQ E o b1 b2 q b1 b2 b3 hr nx dr on n lf sc sd sh sf ((q, .inl (eL E, sh2, .inr (.inr (.inr (.inr sf2))))) :: (q2, .inl (eI E, 14, .inl f)) :: (shC E ra sr k ++ (pl ++ F)))) H locs) : gO E A s (sR E o b1 b2 q hr nx dr on n lf sc sd sh2 sf2 (shC E (va_up ra k q2) (va_up sr k f) (k + 1) ++ (pl ++ F))) H locs := by
  have h1 := gO.part (X9 := sQ E o b1 b2 q b1 b2 b3 hr nx dr on n lf sc sd sh sf [(q, .inl (eL E, sh2, .inr (.inr (.inr (.inr sf2))))), (q2, .inl (eI E, 14, .inl f))]) (cx9 := sR E o b1 b2 q hr nx dr on n lf sc sd sh2 sf2 [(q2, .inl (eI E, 14, .inl f))]) hO [0, 1, 2, 4, 5] rfl rfl
  have h2 : gO E A s (sR E o b1 b2 q hr nx dr on n lf sc sd sh2 sf2 (shC E ra sr k ++ ((q2, .inl (eI E, 14, .inl f)) :: (pl ++ F)))) H locs := gO.mv (X9 := sR E o b1 b2 q hr nx dr on n lf sc sd sh2 sf2 []) (Y9 := shC E ra sr k) (F := pl ++ F) h1
  rw [shC_push] at h2
  exact h2
theorem gO.frn {W0 : va_W} {z : Nat × va_E} {G9 : va_W} (hO : gO E A s (z :: (W0 ++ G9)) H locs) : gO E A s (W0 ++ (z :: G9)) H locs := gO.mv (X9 := []) hO
end GP
end
section
theorem vup_ext {g lf : Nat → Option Nat} {k q : Nat} (hg : ∀ i, i < k → g i = lf i) (hq : lf k = some q) : ∀ i, i < k + 1 → va_up g k (some q) i = lf i := by
  intro i hi
  by_cases h9 : i = k
  · rw [h9, hq]
    simp [va_up]
  · simp only [va_up, if_neg h9]
    exact hg i (by omega)
/-- the value of the last of the first k phrases with a key -/
def wvT (S : St) (kk : Int32) (k : Nat) : Int32 := match lpO (s_key S) kk 0 k with | none => 0 | some i => s_val S i
theorem wvT_1 {S : St} {kk : Int32} {k : Nat} (h : s_key S k = kk) : wvT S kk (k + 1) = s_val S k := by
  unfold wvT lpO
  rw [if_pos (Nat.zero_le _), if_pos h]
theorem wvT_0 {S : St} {kk : Int32} {k : Nat} (h : ¬ s_key S k = kk) : wvT S kk (k + 1) = wvT S kk k := by
  unfold wvT
  rw [show lpO (s_key S) kk 0 (k + 1) = lpO (s_key S) kk 0 k by rw [lpO, if_pos (Nat.zero_le _), if_neg h]]
theorem s_kv0 (S : St) (i c : Nat) : s_kv S i (pf (s_off S) (s_at S i) (s_n S)) (s_to S i 0) c = s_kn S i c := by
  unfold s_kv
  rw [lpO_ge (by unfold s_to; omega)]
-- ONE PHRASE DROPPED
def g1 (z : Nat) : Nat → Int32 := fun i => if i = z then 1 else 0
theorem g1_z (z : Nat) : ¬ g1 z z = 0 := by unfold g1; rw [if_pos rfl]; decide
theorem g1_n {z i : Nat} (h : ¬ i = z) : g1 z i = 0 := if_neg h
theorem cpN_g1 (z : Nat) : ∀ n, cpN (g1 z) n = if z < n then n - 1 else n := by
  intro n
  induction n with
  | zero => rfl
  | succ n ih =>
    by_cases h : n = z
    · subst h
      rw [cp_s0 (g1_z n), ih, if_neg (by omega), if_pos (by omega)]
      rfl
    · rw [cp_s1 (g1_n h), ih]
      split <;> split <;> omega
theorem cpN_g1z {z n : Nat} (h : z < n) : cpN (g1 z) n = n - 1 := by rw [cpN_g1, if_pos h]
theorem cpF_g1 (z : Nat) (f : Nat → Int32) : ∀ n j, j < cpN (g1 z) n → cpF (g1 z) f n j = f (if j < z then j else j + 1) := by
  intro n
  induction n with
  | zero => intro j h; exact absurd h (Nat.not_lt_zero _)
  | succ n ih =>
    intro j hj
    by_cases h : n = z
    · subst h
      rw [cp_s0 (g1_z n)] at hj
      rw [cf_s0 (g1_z n)]
      exact ih j hj
    · rw [cp_s1 (g1_n h)] at hj
      rw [cf_s1 (g1_n h)]
      by_cases hc : j = cpN (g1 z) n
      · simp only [upd, if_pos hc]
        rw [cpF_ge (g1 z) f n n (cpN_le _ n) (Nat.le_refl _)]
        rw [cpN_g1] at hc
        congr 1
        split at hc <;> split <;> omega
      · simp only [upd, if_neg hc]
        exact ih j (by omega)
theorem cm_g1 (z fr : Nat) : ∀ n, cm (g1 z) fr n = if fr ≤ z ∧ z < n then 1 else 0 := by
  intro n
  induction n with
  | zero => rw [if_neg (by omega)]; rfl
  | succ n ih =>
    unfold cm
    rw [ih]
    by_cases h : n = z
    · subst h
      rw [if_neg (by omega)]
      by_cases hf : fr ≤ n
      · rw [if_pos ⟨hf, g1_z n⟩, if_pos ⟨hf, by omega⟩]
      · rw [if_neg (fun q => hf q.1), if_neg (fun q => hf q.1)]
    · rw [if_neg (show ¬ (fr ≤ n ∧ ¬ g1 z n = 0) from fun q => q.2 (g1_n h)), Nat.add_zero]
      by_cases hf : fr ≤ z ∧ z < n
      · rw [if_pos hf, if_pos ⟨hf.1, by omega⟩]
      · rw [if_neg hf, if_neg (fun q => hf ⟨q.1, by omega⟩)]
theorem md_1 {S : St} {z i : Nat} (hs : s_srt S) (hz : z < s_n S) (hi : i < s_sh S) (h : ¬ s_off S z < s_at S i) : s_md S (g1 z) i = s_ms S i + 1 := by
  unfold s_md
  rw [mkU_at hi, cm_g1, if_pos ⟨(pf_iff hs hz).mpr h, hz⟩]
  rfl
theorem md_0 {S : St} {z i : Nat} (hs : s_srt S) (hz : z < s_n S) (hi : i < s_sh S) (h : s_off S z < s_at S i) : s_md S (g1 z) i = s_ms S i := by
  unfold s_md
  rw [mkU_at hi, cm_g1, if_neg (fun q => (pf_iff hs hz).mp q.1 h), nI_0, Int32.add_zero]
theorem rep_drop {E : gE} {d : Dt} {S : St} {z q : Nat} {g : Nat → Option Nat} {sr2 : Nat → Nat → Int32} {x9 : Nat × va_E} (hR : Rep E d S) (hz : z < s_n S) (hg : ∀ i, i < s_n S - 1 → g i = d_l d (if i < z then i else i + 1)) (hs : ∀ i, i < s_sh S → (∀ c, c ≠ 3 → sr2 i c = d_r d i c) ∧ sr2 i 3 = s_md S (g1 z) i) : Rep E (mkD9 q (d_2 d) (d_3 d) g (d_s d) (d_f d) (d_a d) sr2 (x9 :: d_p d)) (S_drop S (g1 z)) := by
  refine ⟨fun i hi => ?_, fun i hi => hR.2.1 i hi, fun i hi => ?_⟩
  · have hi : i < cpN (g1 z) (s_n S) := hi
    have e9 := cpN_g1z hz
    obtain ⟨q9, f9, h1, h2, h3, h4, h5, h6⟩ := hR.1 (if i < z then i else i + 1) (by split <;> omega)
    exact ⟨q9, f9, (hg i (by omega)).trans h1, .tail _ h2, h3.trans (cpF_g1 z _ _ i hi).symm, h4.trans (cpF_g1 z _ _ i hi).symm, h5.trans (cpF_g1 z _ _ i hi).symm, h6.trans (cpF_g1 z _ _ i hi).symm⟩
  · have hi : i < s_sh S := hi
    obtain ⟨k1, k2, k3, k4, k5, k6⟩ := hR.2.2 i hi
    obtain ⟨g1, g2⟩ := hs i hi
    exact ⟨k1, (g1 0 (by decide)).trans k2, (g1 1 (by decide)).trans k3, (g1 2 (by decide)).trans k4, g2, fun c hc => (g1 (4 + c) (by omega)).trans (k6 c hc)⟩
theorem S_room_g1 {S : St} (h : ¬ s_n S < 48) : S_room S = S_drop S (g1 0) := by unfold S_room; rw [if_neg h]; rfl
theorem s_tag_room (S : St) : s_tag (S_room S) = s_tag S ∧ s_on (S_room S) = s_on S ∧ s_sc (S_room S) = s_sc S ∧ s_nx (S_room S) = s_nx S := by
  unfold S_room
  split <;> exact ⟨rfl, rfl, rfl, rfl⟩
theorem md_st {S : St} {sr2 sr0 : Nat → Nat → Int32} {j z : Nat} (hs : ∀ i, i < s_sh S → (∀ c, c ≠ 3 → sr2 i c = sr0 i c) ∧ sr2 i 3 = (if i < j then s_md S (g1 z) i else s_ms S i)) (h : s_md S (g1 z) j = s_ms S j + 1) : ∀ i, i < s_sh S → (∀ c, c ≠ 3 → va_up sr2 j (upd (sr2 j) 3 (s_ms S j + 1)) i c = sr0 i c) ∧ va_up sr2 j (upd (sr2 j) 3 (s_ms S j + 1)) i 3 = (if i < j + 1 then s_md S (g1 z) i else s_ms S i) := by
  intro i hi
  obtain ⟨h1, h2⟩ := hs i hi
  by_cases hj : i = j
  · rw [hj] at h1 ⊢
    refine ⟨fun c hc => ?_, ?_⟩
    · simp only [va_up, if_pos, upd, if_neg hc]
      exact h1 c hc
    · simp only [va_up, if_pos, upd]
      rw [if_pos (Nat.lt_succ_self j)]
      exact h.symm
  · refine ⟨fun c hc => ?_, ?_⟩
    · simp only [va_up, if_neg hj]
      exact h1 c hc
    · simp only [va_up, if_neg hj]
      rw [h2]
      by_cases hl : i < j
      · rw [if_pos hl, if_pos (by omega)]
      · rw [if_neg hl, if_neg (by omega)]
theorem md_sk {S : St} {sr2 sr0 : Nat → Nat → Int32} {j z : Nat} (hs : ∀ i, i < s_sh S → (∀ c, c ≠ 3 → sr2 i c = sr0 i c) ∧ sr2 i 3 = (if i < j then s_md S (g1 z) i else s_ms S i)) (h : s_md S (g1 z) j = s_ms S j) : ∀ i, i < s_sh S → (∀ c, c ≠ 3 → sr2 i c = sr0 i c) ∧ sr2 i 3 = (if i < j + 1 then s_md S (g1 z) i else s_ms S i) := by
  intro i hi
  obtain ⟨h1, h2⟩ := hs i hi
  refine ⟨h1, ?_⟩
  rw [h2]
  by_cases hj : i = j
  · rw [hj, if_neg (Nat.lt_irrefl j), if_pos (Nat.lt_succ_self j), h]
  · by_cases hl : i < j
    · rw [if_pos hl, if_pos (by omega)]
    · rw [if_neg hl, if_neg (by omega)]
-- A PHRASE SAID
theorem spk_off {S S2 : St} (h : S2 = S_room S) (h0 : s_on S2 = 0) (k v : Int32) : S_spk S k v = S_app S2 k v (-1) := by
  subst h
  unfold S_spk
  rw [← (s_tag_room S).1]
  unfold S_cntd s_tag
  rw [if_pos h0, if_pos h0]
theorem spk_on {S S2 : St} (h : S2 = S_room S) (h0 : ¬ s_on S2 = 0) (k v : Int32) : S_spk S k v = S_app (S_said S2 (upd (s_said S2) (s_sc S2 - 1) (s_said S2 (s_sc S2 - 1) + 1))) k v (nI (s_sc S2 - 1)) := by
  subst h
  unfold S_spk
  rw [← (s_tag_room S).1]
  unfold S_cntd s_tag
  rw [if_neg h0, if_neg h0]
theorem rep_app {E : gE} {d : Dt} {S : St} {q q2 : Nat} {g : Nat → Option Nat} {sd x f : Nat → Int32} {x9 : Nat × va_E} {k v t : Int32} (hR : Rep E d S) (hg : ∀ i, i < s_n S → g i = d_l d i) (hq : g (s_n S) = some q2) (hx : ∀ i, i < s_sc S → sd i = x i) (h0 : f 0 = s_nx S) (h1 : f 1 = k) (h2 : f 2 = v) (h3 : f 3 = t) : Rep E (mkD9 q (d_2 d) (d_3 d) g sd (d_f d) (d_a d) (d_r d) ((q2, .inl (eI E, 4, .inl f)) :: x9 :: d_p d)) (S_app (S_said S x) k v t) := by
  refine ⟨fun i hi => ?_, fun i hi => hx i hi, fun i hi => hR.2.2 i hi⟩
  have hi : i < s_n S + 1 := hi
  by_cases h9 : i = s_n S
  · refine ⟨q2, f, by rw [h9]; exact hq, .head _, ?_, ?_, ?_, ?_⟩
    · show f 0 = upd (s_off S) (s_n S) (s_nx S) i
      rw [h9, upd_at, h0]
    · show f 1 = upd (s_key S) (s_n S) k i
      rw [h9, upd_at, h1]
    · show f 2 = upd (s_val S) (s_n S) v i
      rw [h9, upd_at, h2]
    · show f 3 = upd (s_sto S) (s_n S) t i
      rw [h9, upd_at, h3]
  · obtain ⟨q9, f9, g1, g2, g3, g4, g5, g6⟩ := hR.1 i (by omega)
    refine ⟨q9, f9, (hg i (by omega)).trans g1, .tail _ (.tail _ g2), ?_, ?_, ?_, ?_⟩
    · show f9 0 = upd (s_off S) (s_n S) (s_nx S) i
      rw [upd, if_neg h9, g3]
    · show f9 1 = upd (s_key S) (s_n S) k i
      rw [upd, if_neg h9, g4]
    · show f9 2 = upd (s_val S) (s_n S) v i
      rw [upd, if_neg h9, g5]
    · show f9 3 = upd (s_sto S) (s_n S) t i
      rw [upd, if_neg h9, g6]
end
section
set_option maxHeartbeats 4000000 in
set_option maxRecDepth 100000 in
theorem c_X3_with (l : Launch) (E : gE) (ws : va_W) (b v n M q0 qk : Nat) (lf : Nat → Option Nat) (g0 : Nat → Int32) (ha : ws[q0]? = some (b, .inl (eL E, n, .inr (.inr (.inr (.inr lf)))))) (hv : ws[qk]? = some (v, .inl (eI E, M, .inl g0))) (hn : n ≤ 48) (hel : ∀ i, i < n → ∃ (q : Nat) (f : Nat → Int32) (N : Nat), lf i = some q ∧ ((q, .inl (eI E, N, .inl f)) : Nat × va_E) ∈ ws) : gMg l E yX3_with wsX3_with ({ frames := 0, cells := 1, slots := 49, locals := 0 }) ws [.ref b, .ref v] (fun (g : Nat → Option Nat) => (∀ i, i < n → g i = lf i) ∧ g n = some v) (fun (g : Nat → Option Nat) (r : Nat) => (r, .inl (eL E, n + 1, .inr (.inr (.inr (.inr g))))) :: ws) 1 49 := by
  refine gMg.of (cc := cX3_with) (maxL := 4) (ty := (.array (.array .int))) (by decide) rfl (Nat.le_of_ble_eq_true rfl) ?_
  intro p e s m args below meth c A C ls hl hO
  have hl : lv_has ls 4 [(0, .ref b), (1, .ref v)] := hl
  refine lv_aload_n C.1 C.2.1 dX3_with_0 rfl (lv_at hl 0 rfl) ?_
  refine va_alen (v := nI n) C.1 C.2.1 C.2.2.2.2.2.2.2.1.1 hO.1 (q0 + 0) 3 ha rfl rfl dX3_with_1 ?_
  refine lv_iconst (v := 1) C.1 C.2.1 dX3_with_2 (by decide) ?_
  refine gAddN (x := n) (y := 1) C.1 C.2.1 dX3_with_3 ?_
  have hO : gO E A s (([] : va_W) ++ ws) _ _ := hO
  refine gNewA (N9 := (n + 1)) C (by decide +kernel) hO (by first | decide | omega) (Nat.le_of_ble_eq_true rfl) (by show _ ≤ 49; omega) dX3_with_4 (fun q_w H hO => ?_)
  have hO : gO E A s ((q_w, .inl (eL E, n + 1, .inr (.inr (.inr (.inr (fun _ => none)))))) :: ws) _ _ := hO
  refine lv_astore_n (lv' := [(2, .ref q_w), (0, .ref b), (1, .ref v)]) C.1 C.2.1 dX3_with_7 rfl hl (by decide) rfl (fun ls hl => ?_)
  refine lv_iconst (v := 0) C.1 C.2.1 dX3_with_8 (by decide) ?_
  refine lv_istore_n (lv' := [(3, .int 0), (2, .ref q_w), (0, .ref b), (1, .ref v)]) C.1 C.2.1 dX3_with_9 rfl hl (by decide) rfl (fun ls hl => ?_)
  have lp24 : ∀ (f : Nat) (k24 : Nat) (g24 : Nat → Option Nat), (n + 1 ≤ k24 + f) → (k24 ≤ n) → (∀ i, i < k24 → g24 i = lf i) → ∀ (H : Heap) (locs : List Loc), gO E A s ((q_w, .inl (eL E, (n + 1), .inr (.inr (.inr (.inr g24))))) :: ws) H locs → ∀ ls : Array Slot, lv_has ls 4 [(0, .ref b), (1, .ref v), (2, .ref q_w), (3, .int (nI k24))] → W p l e ({ frames := 0, cells := 1, slots := 49, locals := 0 } : Room) s m args below meth c H locs 1 (n + 1) (MQ below (gQg E A (fun (g : Nat → Option Nat) => (∀ i, i < n → g i = lf i) ∧ g n = some v) (fun (g : Nat → Option Nat) (r : Nat) => (r, .inl (eL E, n + 1, .inr (.inr (.inr (.inr g))))) :: ws)) args s 1 49 A) (F0 m 10 ls []) := by
    intro f
    induction f with
    | zero =>
      intro k24 g24 hf hk24 hg24
      exact absurd hf (by omega)
    | succ f ih_lp24 =>
      intro k24 g24 hf hk24 hg24 H locs hO ls hl
      refine lv_iload_n C.1 C.2.1 dX3_with_10 rfl (lv_at hl 3 rfl) ?_
      refine lv_aload_n C.1 C.2.1 dX3_with_11 rfl (lv_at hl 0 rfl) ?_
      refine va_alen (v := nI n) C.1 C.2.1 C.2.2.2.2.2.2.2.1.1 hO.1 (q0 + 1) 3 ha rfl rfl dX3_with_12 ?_
      refine gGeN (x := k24) (y := n) (tgt := 28) C.1 C.2.1 (by omega) (by omega) dX3_with_13 (by decide) (fun c_1 => ?_) (fun c_1 => ?_)
      · refine lv_aload_n C.1 C.2.1 dX3_with_28 rfl (lv_at hl 2 rfl) ?_
        refine lv_aload_n C.1 C.2.1 dX3_with_29 rfl (lv_at hl 0 rfl) ?_
        refine va_alen (v := nI n) C.1 C.2.1 C.2.2.2.2.2.2.2.1.1 hO.1 (q0 + 1) 3 ha rfl rfl dX3_with_30 ?_
        refine lv_aload_n C.1 C.2.1 dX3_with_31 rfl (lv_at hl 1 rfl) ?_
        refine gAastA (j := n) (ws' := ((q_w, .inl (eL E, (n + 1), .inr (.inr (.inr (.inr (va_up g24 n (some v))))))) :: ws)) C hO 0 (qk + 1) rfl hv (by first | decide | omega) (by first | decide | omega) rfl dX3_with_32 (fun H locs hO => ?_)
        refine lv_aload_n C.1 C.2.1 dX3_with_33 rfl (lv_at hl 2 rfl) ?_
        exact gRg (va_up g24 n (some v)) C hO (.inr ⟨_, rfl⟩) (⟨fun i hi => by simp only [va_up, if_neg (show ¬ i = n by omega)]; exact hg24 i (by omega), by simp only [va_up, if_pos]⟩) dX3_with_34 (Nat.le_of_ble_eq_true rfl) (by omega)
      · refine lv_aload_n C.1 C.2.1 dX3_with_16 rfl (lv_at hl 2 rfl) ?_
        refine lv_iload_n C.1 C.2.1 dX3_with_17 rfl (lv_at hl 3 rfl) ?_
        refine lv_aload_n C.1 C.2.1 dX3_with_18 rfl (lv_at hl 0 rfl) ?_
        refine lv_iload_n C.1 C.2.1 dX3_with_19 rfl (lv_at hl 3 rfl) ?_
        obtain ⟨q9, f9, n9, hq9, hm9⟩ := hel k24 (by omega)
        refine gAaldA (v := q9) (j := k24) C hO (q0 + 1) ha (by omega) (by omega) hq9 dX3_with_20 ?_
        have ha_3m : (q9, (.inl (eI E, n9, .inl f9) : va_E)) ∈ ((q_w, .inl (eL E, (n + 1), .inr (.inr (.inr (.inr g24))))) :: ws) := (.tail _ hm9)
        obtain ⟨p_2, ha_3⟩ := List.getElem?_of_mem ha_3m
        refine gAastA (j := k24) (ws' := ((q_w, .inl (eL E, (n + 1), .inr (.inr (.inr (.inr (va_up g24 k24 (some q9))))))) :: ws)) C hO 0 p_2 rfl ha_3 (by first | decide | omega) (by first | decide | omega) rfl dX3_with_21 (fun H locs hO => ?_)
        refine gInc (j := k24) (k := 3) (lv' := [(3, .int (nI (k24 + 1))), (0, .ref b), (1, .ref v), (2, .ref q_w)]) C.1 C.2.1 dX3_with_22 hl rfl (by decide) rfl (fun ls hl => ?_)
        refine lv_goto (tgt := 10) C.1 C.2.1 dX3_with_25 (by decide) ?_
        exact ih_lp24 (k24 + 1) (va_up g24 k24 (some q9)) (by omega) (by omega) (vup_ext hg24 hq9) _ _ hO _ (lv_sub hl [1, 2, 3, 0] rfl)
  refine W.widen (k := 1) (n := n + 1) (by omega) (by omega) ?_
  exact lp24 (n + 1) 0 (fun _ => none) (by omega) (Nat.zero_le _) (fun i hi => absurd hi (Nat.not_lt_zero _)) _ _ hO _ (lv_sub hl [2, 3, 1, 0] rfl)

set_option maxHeartbeats 4000000 in
set_option maxRecDepth 100000 in
theorem c_X3_lag (l : Launch) (E : gE) (o : Nat) (d : Dt) (S : St) (F : va_W) (i0 : Nat) (hi0 : i0 < s_sh S) (hR : Rep E d S) (hI : s_inv S) (hsr : s_srt S) : gMi l E yX3_lag wsX3_lag ({ frames := 0, cells := 0, slots := 0, locals := 0 }) (sW E o d S F) [.ref o, .ref ((d_a d) i0)] (nI (s_lag S i0)) (sW E o d S F) 0 0 := by
  refine gMi.of (cc := cX3_lag) (maxL := 7) (ty := .int) (by decide) rfl (Nat.le_of_ble_eq_true rfl) ?_
  intro p e s m args below meth c A C ls hl hO
  have hl : lv_has ls 7 [(0, .ref o), (1, .ref ((d_a d) i0))] := hl
  have iX3 : ∀ w ∈ u_ws RX3 TX3 7, w ∈ wsX3_lag := by decide +kernel
  have w9 : Cond.fieldLink RX3 9 "ParrotLogLaw$Sim" "log" "[[I" ∈ wsX3_lag := by decide +kernel
  obtain ⟨hn, hsh, hsc, hOn, hOb, hok9, hpc9, hp0⟩ := hI
  refine lv_iconst (v := 0) C.1 C.2.1 dX3_lag_0 (by decide) ?_
  refine lv_istore_n (lv' := [(2, .int 0), (0, .ref o), (1, .ref ((d_a d) i0))]) C.1 C.2.1 dX3_lag_1 rfl hl (by decide) rfl (fun ls hl => ?_)
  refine lv_aload_n C.1 C.2.1 dX3_lag_2 rfl (lv_at hl 1 rfl) ?_
  refine gGet (v := .ref (d_1 d)) (ref := RX3) (Cn := RX3) (T := TX3) (N := 7) C iX3 hO 0 rfl rfl 4 (by decide) w9 (fun _ h9 => h9) rfl dX3_lag_3 ?_
  refine lv_astore_n (lv' := [(3, .ref (d_1 d)), (2, .int 0), (0, .ref o), (1, .ref ((d_a d) i0))]) C.1 C.2.1 dX3_lag_6 rfl hl (by decide) rfl (fun ls hl => ?_)
  refine lv_aload_n C.1 C.2.1 dX3_lag_7 rfl (lv_at hl 0 rfl) ?_
  refine va_alen (v := nI (s_n S)) C.1 C.2.1 C.2.2.2.2.2.2.2.1.1 hO.1 1 3 rfl rfl rfl dX3_lag_8 ?_
  refine lv_istore (lv' := [(4, .int (nI (s_n S))), (3, .ref (d_1 d)), (2, .int 0), (0, .ref o), (1, .ref ((d_a d) i0))]) C.1 C.2.1 dX3_lag_9 hl (by decide) rfl (fun ls hl => ?_)
  have hl : lv_has ls 7 [(4, .int (nI (s_n S))), (3, .ref (d_1 d)), (2, .int (nI (0 - pf (s_off S) (s_at S i0) (s_n S)))), (0, .ref o), (1, .ref ((d_a d) i0))] := by rw [Nat.zero_sub]; exact hl
  refine lv_iconst (v := 0) C.1 C.2.1 dX3_lag_11 (by decide) ?_
  refine lv_istore (lv' := [(5, .int 0), (4, .int (nI (s_n S))), (3, .ref (d_1 d)), (2, .int (nI (0 - pf (s_off S) (s_at S i0) (s_n S)))), (0, .ref o), (1, .ref ((d_a d) i0))]) C.1 C.2.1 dX3_lag_12 hl (by decide) rfl (fun ls hl => ?_)
  have lp24 : ∀ (f : Nat) (k24 : Nat), (s_n S + 1 ≤ k24 + f) → (k24 ≤ s_n S) → ∀ (H : Heap) (locs : List Loc), gO E A s (sW E o d S F) H locs → ∀ ls : Array Slot, lv_has ls 7 [(0, .ref o), (1, .ref ((d_a d) i0)), (2, .int (nI (k24 - pf (s_off S) (s_at S i0) (s_n S)))), (3, .ref (d_1 d)), (4, .int (nI (s_n S))), (5, .int (nI k24))] → W p l e ({ frames := 0, cells := 0, slots := 0, locals := 0 } : Room) s m args below meth c H locs 0 0 (MQ below (gQi E A (nI (s_lag S i0)) (sW E o d S F)) args s 0 0 A) (F0 m 14 ls []) := by
    intro f
    induction f with
    | zero =>
      intro k24 hf hk24
      exact absurd hf (by omega)
    | succ f ih_lp24 =>
      intro k24 hf hk24 H locs hO ls hl
      refine lv_iload C.1 C.2.1 dX3_lag_14 (lv_at hl 5 rfl) ?_
      refine lv_iload C.1 C.2.1 dX3_lag_16 (lv_at hl 4 rfl) ?_
      refine gGeN (x := k24) (y := (s_n S)) (tgt := 46) C.1 C.2.1 (by omega) (by omega) dX3_lag_18 (by decide) (fun c_1 => ?_) (fun c_1 => ?_)
      · refine lv_iload_n C.1 C.2.1 dX3_lag_46 rfl (lv_at hl 2 rfl) ?_
        exact gRi C hO rfl (by rw [show k24 = s_n S by omega]; rfl) dX3_lag_47 (Nat.le_of_ble_eq_true rfl) (Nat.le_of_ble_eq_true rfl)
      · refine lv_aload_n C.1 C.2.1 dX3_lag_21 rfl (lv_at hl 3 rfl) ?_
        refine lv_iload C.1 C.2.1 dX3_lag_22 (lv_at hl 5 rfl) ?_
        obtain ⟨q_2, f_2, hq_2, hm_2, e0_2, e1_2, e2_2, e3_2⟩ := (hR).1 k24 (by omega)
        refine gAaldA (v := q_2) (j := k24) C hO 1 rfl (by omega) (by omega) hq_2 dX3_lag_24 ?_
        refine lv_astore (lv' := [(6, .ref q_2), (0, .ref o), (1, .ref ((d_a d) i0)), (2, .int (nI (k24 - pf (s_off S) (s_at S i0) (s_n S)))), (3, .ref (d_1 d)), (4, .int (nI (s_n S))), (5, .int (nI k24))]) C.1 C.2.1 dX3_lag_25 hl (by decide) rfl (fun ls hl => ?_)
        refine lv_aload C.1 C.2.1 dX3_lag_27 (lv_at hl 0 rfl) ?_
        refine lv_iconst (v := 0) C.1 C.2.1 dX3_lag_29 (by decide) ?_
        have ha_4m : (q_2, (.inl (eI E, 4, .inl f_2) : va_E)) ∈ (sW E o d S F) := sR_mem (pl_mem hm_2)
        obtain ⟨p_3, ha_4⟩ := List.getElem?_of_mem ha_4m
        refine gIald (v := s_off S k24) (j := 0) C hO p_3 ha_4 (by decide) (by first | decide | omega) e0_2 dX3_lag_30 ?_
        refine lv_aload_n C.1 C.2.1 dX3_lag_31 rfl (lv_at hl 2 rfl) ?_
        refine lv_iconst (v := 1) C.1 C.2.1 dX3_lag_32 (by decide) ?_
        refine gIald (v := s_at S i0) (j := 1) C hO (i0 + 4) (shC_at hi0) (by decide) (by first | decide | omega) (((hR).2.2 i0 hi0).2.2.1) dX3_lag_33 ?_
        refine lv_icmp_lt (tgt := 40) C.1 C.2.1 dX3_lag_34 (by decide) (fun c_5 => ?_) (fun c_5 => ?_)
        · have hz9 : k24 + 1 - pf (s_off S) (s_at S i0) (s_n S) = k24 - pf (s_off S) (s_at S i0) (s_n S) := by have := mt (pf_iff hsr (o := s_at S i0) (i := k24) (by omega)).mp (fun h => h c_5); omega
          have hl : lv_has ls 7 [(0, .ref o), (1, .ref ((d_a d) i0)), (2, .int (nI (k24 - pf (s_off S) (s_at S i0) (s_n S)))), (3, .ref (d_1 d)), (4, .int (nI (s_n S))), (5, .int (nI k24))] := lv_sub hl [1, 2, 3, 4, 5, 6] rfl
          have hl : lv_has ls 7 [(0, .ref o), (1, .ref ((d_a d) i0)), (2, .int (nI (k24 + 1 - pf (s_off S) (s_at S i0) (s_n S)))), (3, .ref (d_1 d)), (4, .int (nI (s_n S))), (5, .int (nI k24))] := by rw [hz9]; exact hl
          refine gInc (j := k24) (k := 5) (lv' := [(5, .int (nI (k24 + 1))), (0, .ref o), (1, .ref ((d_a d) i0)), (2, .int (nI (k24 + 1 - pf (s_off S) (s_at S i0) (s_n S)))), (3, .ref (d_1 d)), (4, .int (nI (s_n S)))]) C.1 C.2.1 dX3_lag_40 hl rfl (by decide) rfl (fun ls hl => ?_)
          refine lv_goto (tgt := 14) C.1 C.2.1 dX3_lag_43 (by decide) ?_
          exact ih_lp24 (k24 + 1) (by omega) (by omega) _ _ hO _ (lv_sub hl [1, 2, 3, 4, 5, 0] rfl)
        · have hz9 : k24 + 1 - pf (s_off S) (s_at S i0) (s_n S) = k24 - pf (s_off S) (s_at S i0) (s_n S) + 1 := by have := (pf_iff hsr (o := s_at S i0) (i := k24) (by omega)).mpr c_5; omega
          refine gInc (j := (k24 - pf (s_off S) (s_at S i0) (s_n S))) (k := 3) (lv' := [(2, .int (nI ((k24 - pf (s_off S) (s_at S i0) (s_n S)) + 1))), (6, .ref q_2), (0, .ref o), (1, .ref ((d_a d) i0)), (3, .ref (d_1 d)), (4, .int (nI (s_n S))), (5, .int (nI k24))]) C.1 C.2.1 dX3_lag_37 hl rfl (by decide) rfl (fun ls hl => ?_)
          have hl : lv_has ls 7 [(2, .int (nI ((k24 - pf (s_off S) (s_at S i0) (s_n S)) + 1))), (0, .ref o), (1, .ref ((d_a d) i0)), (3, .ref (d_1 d)), (4, .int (nI (s_n S))), (5, .int (nI k24))] := lv_sub hl [0, 2, 3, 4, 5, 6] rfl
          have hl : lv_has ls 7 [(2, .int (nI (k24 + 1 - pf (s_off S) (s_at S i0) (s_n S)))), (0, .ref o), (1, .ref ((d_a d) i0)), (3, .ref (d_1 d)), (4, .int (nI (s_n S))), (5, .int (nI k24))] := by rw [hz9]; exact hl
          refine gInc (j := k24) (k := 5) (lv' := [(5, .int (nI (k24 + 1))), (2, .int (nI (k24 + 1 - pf (s_off S) (s_at S i0) (s_n S)))), (0, .ref o), (1, .ref ((d_a d) i0)), (3, .ref (d_1 d)), (4, .int (nI (s_n S)))]) C.1 C.2.1 dX3_lag_40 hl rfl (by decide) rfl (fun ls hl => ?_)
          refine lv_goto (tgt := 14) C.1 C.2.1 dX3_lag_43 (by decide) ?_
          exact ih_lp24 (k24 + 1) (by omega) (by omega) _ _ hO _ (lv_sub hl [2, 3, 1, 4, 5, 0] rfl)
  exact lp24 (s_n S + 1) 0 (by omega) (Nat.zero_le _) _ _ hO _ (lv_sub hl [4, 5, 3, 2, 1, 0] rfl)

set_option maxHeartbeats 4000000 in
set_option maxRecDepth 100000 in
theorem c_X3_value (l : Launch) (E : gE) (o : Nat) (d : Dt) (S : St) (F : va_W) (kk : Int32) (hR : Rep E d S) (hn : s_n S ≤ 48) : gMi l E yX3_value wsX3_value ({ frames := 0, cells := 0, slots := 0, locals := 0 }) (sW E o d S F) [.ref o, .int kk] (s_wv S kk) (sW E o d S F) 0 0 := by
  refine gMi.of (cc := cX3_value) (maxL := 7) (ty := .int) (by decide) rfl (Nat.le_of_ble_eq_true rfl) ?_
  intro p e s m args below meth c A C ls hl hO
  have hl : lv_has ls 7 [(0, .ref o), (1, .int kk)] := hl
  have iX3 : ∀ w ∈ u_ws RX3 TX3 7, w ∈ wsX3_value := by decide +kernel
  have w9 : Cond.fieldLink RX3 9 "ParrotLogLaw$Sim" "log" "[[I" ∈ wsX3_value := by decide +kernel
  refine lv_iconst (v := 0) C.1 C.2.1 dX3_value_0 (by decide) ?_
  refine lv_istore_n (lv' := [(2, .int 0), (0, .ref o), (1, .int kk)]) C.1 C.2.1 dX3_value_1 rfl hl (by decide) rfl (fun ls hl => ?_)
  refine lv_aload_n C.1 C.2.1 dX3_value_2 rfl (lv_at hl 1 rfl) ?_
  refine gGet (v := .ref (d_1 d)) (ref := RX3) (Cn := RX3) (T := TX3) (N := 7) C iX3 hO 0 rfl rfl 4 (by decide) w9 (fun _ h9 => h9) rfl dX3_value_3 ?_
  refine lv_astore_n (lv' := [(3, .ref (d_1 d)), (2, .int 0), (0, .ref o), (1, .int kk)]) C.1 C.2.1 dX3_value_6 rfl hl (by decide) rfl (fun ls hl => ?_)
  refine lv_aload_n C.1 C.2.1 dX3_value_7 rfl (lv_at hl 0 rfl) ?_
  refine va_alen (v := nI (s_n S)) C.1 C.2.1 C.2.2.2.2.2.2.2.1.1 hO.1 1 3 rfl rfl rfl dX3_value_8 ?_
  refine lv_istore (lv' := [(4, .int (nI (s_n S))), (3, .ref (d_1 d)), (2, .int 0), (0, .ref o), (1, .int kk)]) C.1 C.2.1 dX3_value_9 hl (by decide) rfl (fun ls hl => ?_)
  refine lv_iconst (v := 0) C.1 C.2.1 dX3_value_11 (by decide) ?_
  refine lv_istore (lv' := [(5, .int 0), (4, .int (nI (s_n S))), (3, .ref (d_1 d)), (2, .int 0), (0, .ref o), (1, .int kk)]) C.1 C.2.1 dX3_value_12 hl (by decide) rfl (fun ls hl => ?_)
  have lp24 : ∀ (f : Nat) (k24 : Nat), (s_n S + 1 ≤ k24 + f) → (k24 ≤ s_n S) → ∀ (H : Heap) (locs : List Loc), gO E A s (sW E o d S F) H locs → ∀ ls : Array Slot, lv_has ls 7 [(0, .ref o), (1, .int kk), (2, .int (wvT S kk k24)), (3, .ref (d_1 d)), (4, .int (nI (s_n S))), (5, .int (nI k24))] → W p l e ({ frames := 0, cells := 0, slots := 0, locals := 0 } : Room) s m args below meth c H locs 0 0 (MQ below (gQi E A (s_wv S kk) (sW E o d S F)) args s 0 0 A) (F0 m 14 ls []) := by
    intro f
    induction f with
    | zero =>
      intro k24 hf hk24
      exact absurd hf (by omega)
    | succ f ih_lp24 =>
      intro k24 hf hk24 H locs hO ls hl
      refine lv_iload C.1 C.2.1 dX3_value_14 (lv_at hl 5 rfl) ?_
      refine lv_iload C.1 C.2.1 dX3_value_16 (lv_at hl 4 rfl) ?_
      refine gGeN (x := k24) (y := (s_n S)) (tgt := 46) C.1 C.2.1 (by omega) (by omega) dX3_value_18 (by decide) (fun c_1 => ?_) (fun c_1 => ?_)
      · refine lv_iload_n C.1 C.2.1 dX3_value_46 rfl (lv_at hl 2 rfl) ?_
        exact gRi C hO rfl (by rw [show k24 = s_n S by omega]; rfl) dX3_value_47 (Nat.le_of_ble_eq_true rfl) (Nat.le_of_ble_eq_true rfl)
      · refine lv_aload_n C.1 C.2.1 dX3_value_21 rfl (lv_at hl 3 rfl) ?_
        refine lv_iload C.1 C.2.1 dX3_value_22 (lv_at hl 5 rfl) ?_
        obtain ⟨q_2, f_2, hq_2, hm_2, e0_2, e1_2, e2_2, e3_2⟩ := (hR).1 k24 (by omega)
        refine gAaldA (v := q_2) (j := k24) C hO 1 rfl (by omega) (by omega) hq_2 dX3_value_24 ?_
        refine lv_astore (lv' := [(6, .ref q_2), (0, .ref o), (1, .int kk), (2, .int (wvT S kk k24)), (3, .ref (d_1 d)), (4, .int (nI (s_n S))), (5, .int (nI k24))]) C.1 C.2.1 dX3_value_25 hl (by decide) rfl (fun ls hl => ?_)
        refine lv_aload C.1 C.2.1 dX3_value_27 (lv_at hl 0 rfl) ?_
        refine lv_iconst (v := 1) C.1 C.2.1 dX3_value_29 (by decide) ?_
        have ha_4m : (q_2, (.inl (eI E, 4, .inl f_2) : va_E)) ∈ (sW E o d S F) := sR_mem (pl_mem hm_2)
        obtain ⟨p_3, ha_4⟩ := List.getElem?_of_mem ha_4m
        refine gIald (v := s_key S k24) (j := 1) C hO p_3 ha_4 (by decide) (by first | decide | omega) e1_2 dX3_value_30 ?_
        refine lv_iload_n C.1 C.2.1 dX3_value_31 rfl (lv_at hl 2 rfl) ?_
        refine lv_icmp_ne (tgt := 40) C.1 C.2.1 dX3_value_32 (by decide) (fun c_5 => ?_) (fun c_5 => ?_)
        · have hz9 : wvT S kk (k24 + 1) = wvT S kk k24 := wvT_0 c_5
          have hl : lv_has ls 7 [(0, .ref o), (1, .int kk), (2, .int (wvT S kk k24)), (3, .ref (d_1 d)), (4, .int (nI (s_n S))), (5, .int (nI k24))] := lv_sub hl [1, 2, 3, 4, 5, 6] rfl
          have hl : lv_has ls 7 [(0, .ref o), (1, .int kk), (2, .int (wvT S kk (k24 + 1))), (3, .ref (d_1 d)), (4, .int (nI (s_n S))), (5, .int (nI k24))] := by rw [hz9]; exact hl
          refine gInc (j := k24) (k := 5) (lv' := [(5, .int (nI (k24 + 1))), (0, .ref o), (1, .int kk), (2, .int (wvT S kk (k24 + 1))), (3, .ref (d_1 d)), (4, .int (nI (s_n S)))]) C.1 C.2.1 dX3_value_40 hl rfl (by decide) rfl (fun ls hl => ?_)
          refine lv_goto (tgt := 14) C.1 C.2.1 dX3_value_43 (by decide) ?_
          exact ih_lp24 (k24 + 1) (by omega) (by omega) _ _ hO _ (lv_sub hl [1, 2, 3, 4, 5, 0] rfl)
        · have hz9 : wvT S kk (k24 + 1) = s_val S k24 := wvT_1 c_5
          refine lv_aload C.1 C.2.1 dX3_value_35 (lv_at hl 0 rfl) ?_
          refine lv_iconst (v := nI 2) C.1 C.2.1 dX3_value_37 (by decide) ?_
          have ha_7m : (q_2, (.inl (eI E, 4, .inl f_2) : va_E)) ∈ (sW E o d S F) := sR_mem (pl_mem hm_2)
          obtain ⟨p_6, ha_7⟩ := List.getElem?_of_mem ha_7m
          refine gIald (v := s_val S k24) (j := 2) C hO p_6 ha_7 (by decide) (by first | decide | omega) e2_2 dX3_value_38 ?_
          refine lv_istore_n (lv' := [(2, .int (s_val S k24)), (6, .ref q_2), (0, .ref o), (1, .int kk), (3, .ref (d_1 d)), (4, .int (nI (s_n S))), (5, .int (nI k24))]) C.1 C.2.1 dX3_value_39 rfl hl (by decide) rfl (fun ls hl => ?_)
          have hl : lv_has ls 7 [(2, .int (s_val S k24)), (0, .ref o), (1, .int kk), (3, .ref (d_1 d)), (4, .int (nI (s_n S))), (5, .int (nI k24))] := lv_sub hl [0, 2, 3, 4, 5, 6] rfl
          have hl : lv_has ls 7 [(2, .int (wvT S kk (k24 + 1))), (0, .ref o), (1, .int kk), (3, .ref (d_1 d)), (4, .int (nI (s_n S))), (5, .int (nI k24))] := by rw [hz9]; exact hl
          refine gInc (j := k24) (k := 5) (lv' := [(5, .int (nI (k24 + 1))), (2, .int (wvT S kk (k24 + 1))), (0, .ref o), (1, .int kk), (3, .ref (d_1 d)), (4, .int (nI (s_n S)))]) C.1 C.2.1 dX3_value_40 hl rfl (by decide) rfl (fun ls hl => ?_)
          refine lv_goto (tgt := 14) C.1 C.2.1 dX3_value_43 (by decide) ?_
          exact ih_lp24 (k24 + 1) (by omega) (by omega) _ _ hO _ (lv_sub hl [2, 3, 1, 4, 5, 0] rfl)
  exact lp24 (s_n S + 1) 0 (by omega) (Nat.zero_le _) _ _ hO _ (lv_sub hl [4, 5, 3, 2, 1, 0] rfl)

set_option maxHeartbeats 4000000 in
set_option maxRecDepth 100000 in
theorem c_X3_errors (l : Launch) (E : gE) (o : Nat) (d : Dt) (S : St) (F : va_W) (i0 : Nat) (hi0 : i0 < s_sh S) (hR : Rep E d S) (hI : s_inv S) (hsr : s_srt S) : gMi l E yX3_errors wsX3_errors ({ frames := 1, cells := 0, slots := 0, locals := 26 }) (sW E o d S F) [.ref o, .ref ((d_a d) i0)] (nI (s_ea S i0 0)) (sW E o d S F) 0 0 := by
  refine gMi.of (cc := cX3_errors) (maxL := 4) (ty := .int) (by decide) rfl (Nat.le_of_ble_eq_true rfl) ?_
  intro p e s m args below meth c A C ls hl hO
  have hl : lv_has ls 4 [(0, .ref o), (1, .ref ((d_a d) i0))] := hl
  obtain ⟨hn, hsh, hsc, hOn, hOb, hok9, hpc9, hp0⟩ := hI
  refine lv_iconst (v := 0) C.1 C.2.1 dX3_errors_0 (by decide) ?_
  refine lv_istore_n (lv' := [(2, .int 0), (0, .ref o), (1, .ref ((d_a d) i0))]) C.1 C.2.1 dX3_errors_1 rfl hl (by decide) rfl (fun ls hl => ?_)
  refine lv_iconst (v := 0) C.1 C.2.1 dX3_errors_2 (by decide) ?_
  refine lv_istore_n (lv' := [(3, .int 0), (2, .int 0), (0, .ref o), (1, .ref ((d_a d) i0))]) C.1 C.2.1 dX3_errors_3 rfl hl (by decide) rfl (fun ls hl => ?_)
  have lp24 : ∀ (f : Nat) (k24 : Nat), (11 ≤ k24 + f) → (k24 ≤ 10) → ∀ (H : Heap) (locs : List Loc), gO E A s (sW E o d S F) H locs → ∀ ls : Array Slot, lv_has ls 4 [(0, .ref o), (1, .ref ((d_a d) i0)), (2, .int (nI (s_er S i0 (pf (s_off S) (s_at S i0) (s_n S)) (s_to S i0 0) k24))), (3, .int (nI k24))] → W p l e ({ frames := 1, cells := 0, slots := 0, locals := 26 } : Room) s m args below meth c H locs 0 0 (MQ below (gQi E A (nI (s_ea S i0 0)) (sW E o d S F)) args s 0 0 A) (F0 m 4 ls []) := by
    intro f
    induction f with
    | zero =>
      intro k24 hf hk24
      exact absurd hf (by omega)
    | succ f ih_lp24 =>
      intro k24 hf hk24 H locs hO ls hl
      refine lv_iload_n C.1 C.2.1 dX3_errors_4 rfl (lv_at hl 3 rfl) ?_
      refine lv_bipush (v := nI 10) C.1 C.2.1 dX3_errors_5 (by decide) ?_
      refine gGeN (x := k24) (y := 10) (tgt := 32) C.1 C.2.1 (by omega) (by omega) dX3_errors_7 (by decide) (fun c_1 => ?_) (fun c_1 => ?_)
      · refine lv_iload_n C.1 C.2.1 dX3_errors_32 rfl (lv_at hl 2 rfl) ?_
        exact gRi C hO rfl (by rw [show k24 = 10 by omega]) dX3_errors_33 (Nat.le_of_ble_eq_true rfl) (Nat.le_of_ble_eq_true rfl)
      · refine lv_aload_n C.1 C.2.1 dX3_errors_10 rfl (lv_at hl 1 rfl) ?_
        refine lv_iconst (v := nI 4) C.1 C.2.1 dX3_errors_11 (by decide) ?_
        refine lv_iload_n C.1 C.2.1 dX3_errors_12 rfl (lv_at hl 3 rfl) ?_
        refine gAddN (x := 4) (y := k24) C.1 C.2.1 dX3_errors_13 ?_
        refine gIald (v := s_kn S i0 k24) (j := (4 + k24)) C hO (i0 + 4) (shC_at hi0) (by omega) (by first | decide | omega) ((hR.2.2 i0 hi0).2.2.2.2.2 k24 (by omega)) dX3_errors_14 ?_
        refine lv_aload_n C.1 C.2.1 dX3_errors_15 rfl (lv_at hl 0 rfl) ?_
        refine lv_iload_n C.1 C.2.1 dX3_errors_16 rfl (lv_at hl 3 rfl) ?_
        refine gCall_i (As := [.int (nI k24)]) (rest := [.int (s_kn S i0 k24)]) C hO (c_X3_value l E o d S F (nI k24) hR hn) (cwV 1 C.2.2.2.2.1 gX3_errors_X3_value rfl rfl rfl (by decide +kernel) ⟨(Nat.le_of_ble_eq_true rfl), (Nat.le_of_ble_eq_true rfl)⟩) (va_recv C.2.2.2.2.2.2.2.1.1 hO.1 (ci := 3) (q0 := 0) rfl rfl) rfl hl.1 rfl (Nat.le_of_ble_eq_true rfl) dX3_errors_17 ⟨(Nat.le_of_ble_eq_true rfl), (Nat.le_of_ble_eq_true rfl)⟩ (fun H locs hO => ?_)
        refine lv_icmp_eq (tgt := 26) C.1 C.2.1 dX3_errors_20 (by decide) (fun c_2 => ?_) (fun c_2 => ?_)
        · have hz9 := s_er_0 (S := S) (i := i0) (fr := pf (s_off S) (s_at S i0) (s_n S)) (to := s_to S i0 0) (c := k24) ((s_kv0 S i0 k24).trans c_2)
          have hl : lv_has ls 4 [(0, .ref o), (1, .ref ((d_a d) i0)), (2, .int (nI (s_er S i0 (pf (s_off S) (s_at S i0) (s_n S)) (s_to S i0 0) (k24 + 1)))), (3, .int (nI k24))] := by rw [hz9]; exact hl
          refine gInc (j := k24) (k := 3) (lv' := [(3, .int (nI (k24 + 1))), (0, .ref o), (1, .ref ((d_a d) i0)), (2, .int (nI (s_er S i0 (pf (s_off S) (s_at S i0) (s_n S)) (s_to S i0 0) (k24 + 1))))]) C.1 C.2.1 dX3_errors_26 hl rfl (by decide) rfl (fun ls hl => ?_)
          refine lv_goto (tgt := 4) C.1 C.2.1 dX3_errors_29 (by decide) ?_
          refine W.widen (k := 0) (n := 0) (by omega) (by omega) ?_
          exact ih_lp24 (k24 + 1) (by omega) (by omega) _ _ hO _ (lv_sub hl [1, 2, 3, 0] rfl)
        · have hz9 := s_er_1 (S := S) (i := i0) (fr := pf (s_off S) (s_at S i0) (s_n S)) (to := s_to S i0 0) (c := k24) (fun h9 => c_2 ((s_kv0 S i0 k24).symm.trans h9))
          refine gInc (j := (s_er S i0 (pf (s_off S) (s_at S i0) (s_n S)) (s_to S i0 0) k24)) (k := 2) (lv' := [(2, .int (nI ((s_er S i0 (pf (s_off S) (s_at S i0) (s_n S)) (s_to S i0 0) k24) + 1))), (0, .ref o), (1, .ref ((d_a d) i0)), (3, .int (nI k24))]) C.1 C.2.1 dX3_errors_23 hl rfl (by decide) rfl (fun ls hl => ?_)
          have hl : lv_has ls 4 [(2, .int (nI (s_er S i0 (pf (s_off S) (s_at S i0) (s_n S)) (s_to S i0 0) (k24 + 1)))), (0, .ref o), (1, .ref ((d_a d) i0)), (3, .int (nI k24))] := by rw [hz9]; exact hl
          refine gInc (j := k24) (k := 3) (lv' := [(3, .int (nI (k24 + 1))), (2, .int (nI (s_er S i0 (pf (s_off S) (s_at S i0) (s_n S)) (s_to S i0 0) (k24 + 1)))), (0, .ref o), (1, .ref ((d_a d) i0))]) C.1 C.2.1 dX3_errors_26 hl rfl (by decide) rfl (fun ls hl => ?_)
          refine lv_goto (tgt := 4) C.1 C.2.1 dX3_errors_29 (by decide) ?_
          refine W.widen (k := 0) (n := 0) (by omega) (by omega) ?_
          exact ih_lp24 (k24 + 1) (by omega) (by omega) _ _ hO _ (lv_sub hl [2, 3, 1, 0] rfl)
  exact lp24 11 0 (by omega) (Nat.zero_le _) _ _ hO _ (lv_sub hl [2, 3, 1, 0] rfl)
end
section
set_option maxHeartbeats 4000000 in
set_option maxRecDepth 100000 in
theorem c_X3_dropAt (l : Launch) (E : gE) (o : Nat) (d : Dt) (S : St) (F : va_W) (z0 : Nat) (hz : z0 < s_n S) (hn : s_n S ≤ 48) (hsh : s_sh S ≤ 6) (hsr : s_srt S) (hR : Rep E d S) : gMf l E yX3_dropAt wsX3_dropAt ({ frames := 0, cells := 1, slots := 47, locals := 0 }) (sW E o d S F) [.ref o, .int (nI z0)] (fun (d9 : Dt) => Rep E d9 (S_drop S (g1 z0)) ∧ (∀ x ∈ d_p d, x ∈ d_p d9) ∧ (d_1 d, (.inl (eL E, s_n S, .inr (.inr (.inr (.inr (d_l d))))) : va_E)) ∈ d_p d9) (fun (d9 : Dt) => sW E o d9 (S_drop S (g1 z0)) F) 1 47 := by
  refine gMf.of (cc := cX3_dropAt) (maxL := 7) (by decide) rfl (Nat.le_of_ble_eq_true rfl) ?_
  intro p e s m args below meth c A C ls hl hO
  have hl : lv_has ls 7 [(0, .ref o), (1, .int (nI z0))] := hl
  have iX3 : ∀ w ∈ u_ws RX3 TX3 7, w ∈ wsX3_dropAt := by decide +kernel
  have w9 : Cond.fieldLink RX3 9 "ParrotLogLaw$Sim" "log" "[[I" ∈ wsX3_dropAt := by decide +kernel
  have w18 : Cond.fieldLink RX3 18 "ParrotLogLaw$Sim" "ships" "[[I" ∈ wsX3_dropAt := by decide +kernel
  have w21 : Cond.fieldLink RX3 21 "ParrotLogLaw$Sim" "dropped" "I" ∈ wsX3_dropAt := by decide +kernel
  refine lv_aload_n C.1 C.2.1 dX3_dropAt_0 rfl (lv_at hl 0 rfl) ?_
  refine gGet (v := .ref (d_1 d)) (ref := RX3) (Cn := RX3) (T := TX3) (N := 7) C iX3 hO 0 rfl rfl 4 (by decide) w9 (fun _ h9 => h9) rfl dX3_dropAt_1 ?_
  refine va_alen (v := nI (s_n S)) C.1 C.2.1 C.2.2.2.2.2.2.2.1.1 hO.1 1 3 rfl rfl rfl dX3_dropAt_4 ?_
  refine lv_iconst (v := 1) C.1 C.2.1 dX3_dropAt_5 (by decide) ?_
  refine gSubN (x := (s_n S)) (y := 1) C.1 C.2.1 (by omega) dX3_dropAt_6 ?_
  have hO : gO E A s ((sR E o (d_1 d) (d_2 d) (d_3 d) (s_hr S) (s_nx S) (s_dr S) (s_on S) (s_n S) (d_l d) (s_sc S) (d_s d) (s_sh S) (d_f d) []) ++ (shC E (d_a d) (d_r d) (s_sh S) ++ ((d_p d) ++ F))) _ _ := hO
  refine gNewA (N9 := ((s_n S) - 1)) C (by decide +kernel) hO (by first | decide | omega) (Nat.le_of_ble_eq_true rfl) (by show _ ≤ 47; omega) dX3_dropAt_7 (fun q_w H hO => ?_)
  have hO : gO E A s (sR E o (d_1 d) (d_2 d) (d_3 d) (s_hr S) (s_nx S) (s_dr S) (s_on S) (s_n S) (d_l d) (s_sc S) (d_s d) (s_sh S) (d_f d) ((q_w, .inl (eL E, (s_n S) - 1, .inr (.inr (.inr (.inr (fun _ => none)))))) :: (shC E (d_a d) (d_r d) (s_sh S) ++ ((d_p d) ++ F)))) _ _ := hO
  refine lv_astore_n (lv' := [(2, .ref q_w), (0, .ref o), (1, .int (nI z0))]) C.1 C.2.1 dX3_dropAt_10 rfl hl (by decide) rfl (fun ls hl => ?_)
  refine lv_iconst (v := 0) C.1 C.2.1 dX3_dropAt_11 (by decide) ?_
  refine lv_istore_n (lv' := [(3, .int 0), (2, .ref q_w), (0, .ref o), (1, .int (nI z0))]) C.1 C.2.1 dX3_dropAt_12 rfl hl (by decide) rfl (fun ls hl => ?_)
  have lp24 : ∀ (f : Nat) (k24 : Nat) (g24 : Nat → Option Nat), (s_n S - 1 + 1 ≤ k24 + f) → (k24 ≤ s_n S - 1) → (∀ i, i < k24 → g24 i = d_l d (if i < z0 then i else i + 1)) → ∀ (H : Heap) (locs : List Loc), gO E A s (sR E o (d_1 d) (d_2 d) (d_3 d) (s_hr S) (s_nx S) (s_dr S) (s_on S) (s_n S) (d_l d) (s_sc S) (d_s d) (s_sh S) (d_f d) ((q_w, .inl (eL E, (s_n S - 1), .inr (.inr (.inr (.inr g24))))) :: (shC E (d_a d) (d_r d) (s_sh S) ++ ((d_p d) ++ F)))) H locs → ∀ ls : Array Slot, lv_has ls 7 [(0, .ref o), (1, .int (nI z0)), (2, .ref q_w), (3, .int (nI k24))] → W p l e ({ frames := 0, cells := 1, slots := 47, locals := 0 } : Room) s m args below meth c H locs 1 (s_n S - 1) (MQ below (gQf E A (fun (d9 : Dt) => Rep E d9 (S_drop S (g1 z0)) ∧ (∀ x ∈ d_p d, x ∈ d_p d9) ∧ (d_1 d, (.inl (eL E, s_n S, .inr (.inr (.inr (.inr (d_l d))))) : va_E)) ∈ d_p d9) (fun (d9 : Dt) => sW E o d9 (S_drop S (g1 z0)) F)) args s 1 47 A) (F0 m 13 ls []) := by
    intro f
    induction f with
    | zero =>
      intro k24 g24 hf hk24 hg24
      exact absurd hf (by omega)
    | succ f ih_lp24 =>
      intro k24 g24 hf hk24 hg24 H locs hO ls hl
      refine lv_iload_n C.1 C.2.1 dX3_dropAt_13 rfl (lv_at hl 3 rfl) ?_
      refine lv_aload_n C.1 C.2.1 dX3_dropAt_14 rfl (lv_at hl 2 rfl) ?_
      refine va_alen (v := nI (s_n S - 1)) C.1 C.2.1 C.2.2.2.2.2.2.2.1.1 hO.1 4 3 rfl rfl rfl dX3_dropAt_15 ?_
      refine gGeN (x := k24) (y := (s_n S - 1)) (tgt := 45) C.1 C.2.1 (by omega) (by omega) dX3_dropAt_16 (by decide) (fun c_1 => ?_) (fun c_1 => ?_)
      · refine lv_aload_n C.1 C.2.1 dX3_dropAt_45 rfl (lv_at hl 0 rfl) ?_
        refine gGet (v := .ref (d_3 d)) (ref := RX3) (Cn := RX3) (T := TX3) (N := 7) C iX3 hO 0 rfl rfl 6 (by decide) w18 (fun _ h9 => h9) rfl dX3_dropAt_46 ?_
        refine lv_astore_n (lv' := [(3, .ref (d_3 d)), (0, .ref o), (1, .int (nI z0)), (2, .ref q_w)]) C.1 C.2.1 dX3_dropAt_49 rfl hl (by decide) rfl (fun ls hl => ?_)
        refine lv_aload_n C.1 C.2.1 dX3_dropAt_50 rfl (lv_at hl 0 rfl) ?_
        refine va_alen (v := nI (s_sh S)) C.1 C.2.1 C.2.2.2.2.2.2.2.1.1 hO.1 3 3 rfl rfl rfl dX3_dropAt_51 ?_
        refine lv_istore (lv' := [(4, .int (nI (s_sh S))), (3, .ref (d_3 d)), (0, .ref o), (1, .int (nI z0)), (2, .ref q_w)]) C.1 C.2.1 dX3_dropAt_52 hl (by decide) rfl (fun ls hl => ?_)
        refine lv_iconst (v := 0) C.1 C.2.1 dX3_dropAt_54 (by decide) ?_
        refine lv_istore (lv' := [(5, .int 0), (4, .int (nI (s_sh S))), (3, .ref (d_3 d)), (0, .ref o), (1, .int (nI z0)), (2, .ref q_w)]) C.1 C.2.1 dX3_dropAt_55 hl (by decide) rfl (fun ls hl => ?_)
        have lp25 : ∀ (f : Nat) (j24 : Nat) (sr24 : Nat → Nat → Int32), (s_sh S + 1 ≤ j24 + f) → (j24 ≤ s_sh S) → (∀ i, i < s_sh S → (∀ c, c ≠ 3 → sr24 i c = d_r d i c) ∧ sr24 i 3 = (if i < j24 then s_md S (g1 z0) i else s_ms S i)) → ∀ (H : Heap) (locs : List Loc), gO E A s (sR E o (d_1 d) (d_2 d) (d_3 d) (s_hr S) (s_nx S) (s_dr S) (s_on S) (s_n S) (d_l d) (s_sc S) (d_s d) (s_sh S) (d_f d) ((q_w, .inl (eL E, (s_n S - 1), .inr (.inr (.inr (.inr g24))))) :: (shC E (d_a d) sr24 (s_sh S) ++ ((d_p d) ++ F)))) H locs → ∀ ls : Array Slot, lv_has ls 7 [(0, .ref o), (1, .int (nI z0)), (2, .ref q_w), (3, .ref (d_3 d)), (4, .int (nI (s_sh S))), (5, .int (nI j24))] → W p l e ({ frames := 0, cells := 1, slots := 47, locals := 0 } : Room) s m args below meth c H locs 1 (s_n S - 1) (MQ below (gQf E A (fun (d9 : Dt) => Rep E d9 (S_drop S (g1 z0)) ∧ (∀ x ∈ d_p d, x ∈ d_p d9) ∧ (d_1 d, (.inl (eL E, s_n S, .inr (.inr (.inr (.inr (d_l d))))) : va_E)) ∈ d_p d9) (fun (d9 : Dt) => sW E o d9 (S_drop S (g1 z0)) F)) args s 1 47 A) (F0 m 57 ls []) := by
          intro f
          induction f with
          | zero =>
            intro j24 sr24 hf hj24 hs24
            exact absurd hf (by omega)
          | succ f ih_lp25 =>
            intro j24 sr24 hf hj24 hs24 H locs hO ls hl
            refine lv_iload C.1 C.2.1 dX3_dropAt_57 (lv_at hl 5 rfl) ?_
            refine lv_iload C.1 C.2.1 dX3_dropAt_59 (lv_at hl 4 rfl) ?_
            refine gGeN (x := j24) (y := (s_sh S)) (tgt := 99) C.1 C.2.1 (by omega) (by omega) dX3_dropAt_61 (by decide) (fun c_2 => ?_) (fun c_2 => ?_)
            · refine lv_aload_n C.1 C.2.1 dX3_dropAt_99 rfl (lv_at hl 0 rfl) ?_
              refine lv_aload_n C.1 C.2.1 dX3_dropAt_100 rfl (lv_at hl 2 rfl) ?_
              refine gPut (ws' := (sQ E o q_w (d_2 d) (d_3 d) (d_1 d) (d_2 d) (d_3 d) (s_hr S) (s_nx S) (s_dr S) (s_on S) (s_n S) (d_l d) (s_sc S) (d_s d) (s_sh S) (d_f d) ((q_w, .inl (eL E, (s_n S - 1), .inr (.inr (.inr (.inr g24))))) :: (shC E (d_a d) sr24 (s_sh S) ++ ((d_p d) ++ F))))) (ref := RX3) (Cn := RX3) (T := TX3) (N := 7) C iX3 tyX3 tyX3_ok nmX3 hO 0 rfl rfl 4 (by decide) w9 (fun _ h9 => h9) rfl (by decide +kernel) rfl rfl (Nat.le_of_ble_eq_true rfl) rfl dX3_dropAt_101 (fun H locs hO => ?_)
              have hO : gO E A s (sR E o q_w (d_2 d) (d_3 d) (s_hr S) (s_nx S) (s_dr S) (s_on S) (s_n S - 1) g24 (s_sc S) (d_s d) (s_sh S) (d_f d) (shC E (d_a d) sr24 (s_sh S) ++ ((((d_1 d), .inl (eL E, (s_n S), .inr (.inr (.inr (.inr (d_l d)))))) :: (d_p d)) ++ F))) _ _ := gO.log1 hO
              refine lv_aload_n C.1 C.2.1 dX3_dropAt_104 rfl (lv_at hl 0 rfl) ?_
              refine lv_dup C.1 C.2.1 dX3_dropAt_105 rfl ?_
              refine gGet (v := .int (s_dr S)) (ref := RX3) (Cn := RX3) (T := TX3) (N := 7) C iX3 hO 0 rfl rfl 2 (by decide) w21 (fun _ h9 => h9) rfl dX3_dropAt_106 ?_
              refine lv_iconst (v := 1) C.1 C.2.1 dX3_dropAt_109 (by decide) ?_
              refine lv_iadd C.1 C.2.1 dX3_dropAt_110 ?_
              refine gPut (ws' := (sR E o q_w (d_2 d) (d_3 d) (s_hr S) (s_nx S) ((s_dr S) + 1) (s_on S) (s_n S - 1) g24 (s_sc S) (d_s d) (s_sh S) (d_f d) (shC E (d_a d) sr24 (s_sh S) ++ ((((d_1 d), .inl (eL E, (s_n S), .inr (.inr (.inr (.inr (d_l d)))))) :: (d_p d)) ++ F)))) (ref := RX3) (Cn := RX3) (T := TX3) (N := 7) C iX3 tyX3 tyX3_ok nmX3 hO 0 rfl rfl 2 (by decide) w21 (fun _ h9 => h9) rfl (by decide +kernel) rfl rfl (Nat.le_of_ble_eq_true rfl) rfl dX3_dropAt_111 (fun H locs hO => ?_)
              have e19 := cpN_g1z hz
              have e29 : s_dr S + 1 = s_dr S + nI (s_n S - cpN (g1 z0) (s_n S)) := by rw [e19, show s_n S - (s_n S - 1) = 1 by omega]; rfl
              have hO : gO E A s (sW E o (mkD9 q_w (d_2 d) (d_3 d) g24 (d_s d) (d_f d) (d_a d) sr24 ((d_1 d, (.inl (eL E, s_n S, .inr (.inr (.inr (.inr (d_l d))))) : va_E)) :: d_p d)) (S_drop S (g1 z0)) F) H locs := by rw [e29, ← e19] at hO; exact hO
              exact gRf (mkD9 q_w (d_2 d) (d_3 d) g24 (d_s d) (d_f d) (d_a d) sr24 ((d_1 d, (.inl (eL E, s_n S, .inr (.inr (.inr (.inr (d_l d))))) : va_E)) :: d_p d)) C hO (⟨rep_drop hR hz (fun i hi => hg24 i (by omega)) (fun i hi => ⟨(hs24 i hi).1, (hs24 i hi).2.trans (if_pos (by omega))⟩), fun x hx => .tail _ hx, .head _⟩) dX3_dropAt_114 (Nat.le_of_ble_eq_true rfl) (by omega)
            · refine lv_aload_n C.1 C.2.1 dX3_dropAt_64 rfl (lv_at hl 3 rfl) ?_
              refine lv_iload C.1 C.2.1 dX3_dropAt_65 (lv_at hl 5 rfl) ?_
              refine gAaldA (v := (d_a d) j24) (j := j24) C hO 3 rfl (by omega) (by omega) (((hR).2.2 j24 (by omega)).1) dX3_dropAt_67 ?_
              refine lv_astore (lv' := [(6, .ref ((d_a d) j24)), (0, .ref o), (1, .int (nI z0)), (2, .ref q_w), (3, .ref (d_3 d)), (4, .int (nI (s_sh S))), (5, .int (nI j24))]) C.1 C.2.1 dX3_dropAt_68 hl (by decide) rfl (fun ls hl => ?_)
              refine lv_aload C.1 C.2.1 dX3_dropAt_70 (lv_at hl 0 rfl) ?_
              refine lv_iconst (v := 1) C.1 C.2.1 dX3_dropAt_72 (by decide) ?_
              refine gIald (v := s_at S j24) (j := 1) C hO (j24 + 5) (shC_at (by omega)) (by omega) (by first | decide | omega) (((hs24 j24 (by omega)).1 1 (by decide)).trans (hR.2.2 j24 (by omega)).2.2.1) dX3_dropAt_73 ?_
              refine lv_aload_n C.1 C.2.1 dX3_dropAt_74 rfl (lv_at hl 1 rfl) ?_
              refine gGet (v := .ref (d_1 d)) (ref := RX3) (Cn := RX3) (T := TX3) (N := 7) C iX3 hO 0 rfl rfl 4 (by decide) w9 (fun _ h9 => h9) rfl dX3_dropAt_75 ?_
              refine lv_iload_n C.1 C.2.1 dX3_dropAt_78 rfl (lv_at hl 2 rfl) ?_
              obtain ⟨q_3, f_3, hq_3, hm_3, e0_3, e1_3, e2_3, e3_3⟩ := (hR).1 z0 (by omega)
              refine gAaldA (v := q_3) (j := z0) C hO 1 rfl (by omega) (by omega) hq_3 dX3_dropAt_79 ?_
              refine lv_iconst (v := 0) C.1 C.2.1 dX3_dropAt_80 (by decide) ?_
              have ha_5m : (q_3, (.inl (eI E, 4, .inl f_3) : va_E)) ∈ (sR E o (d_1 d) (d_2 d) (d_3 d) (s_hr S) (s_nx S) (s_dr S) (s_on S) (s_n S) (d_l d) (s_sc S) (d_s d) (s_sh S) (d_f d) ((q_w, .inl (eL E, (s_n S - 1), .inr (.inr (.inr (.inr g24))))) :: (shC E (d_a d) sr24 (s_sh S) ++ ((d_p d) ++ F)))) := sR_mem (.tail _ (pl_mem hm_3))
              obtain ⟨p_4, ha_5⟩ := List.getElem?_of_mem ha_5m
              refine gIald (v := s_off S z0) (j := 0) C hO p_4 ha_5 (by decide) (by first | decide | omega) e0_3 dX3_dropAt_81 ?_
              refine lv_icmp_gt (tgt := 93) C.1 C.2.1 dX3_dropAt_82 (by decide) (fun c_6 => ?_) (fun c_6 => ?_)
              · have hmd9 := md_0 hsr hz (show j24 < s_sh S by omega) c_6
                refine gInc (j := j24) (k := 6) (lv' := [(5, .int (nI (j24 + 1))), (6, .ref ((d_a d) j24)), (0, .ref o), (1, .int (nI z0)), (2, .ref q_w), (3, .ref (d_3 d)), (4, .int (nI (s_sh S)))]) C.1 C.2.1 dX3_dropAt_93 hl rfl (by decide) rfl (fun ls hl => ?_)
                refine lv_goto (tgt := 57) C.1 C.2.1 dX3_dropAt_96 (by decide) ?_
                exact ih_lp25 (j24 + 1) sr24 (by omega) (by omega) (md_sk hs24 hmd9) _ _ hO _ (lv_sub hl [2, 3, 4, 5, 6, 0] rfl)
              · have hmd9 := md_1 hsr hz (show j24 < s_sh S by omega) c_6
                refine lv_aload C.1 C.2.1 dX3_dropAt_85 (lv_at hl 0 rfl) ?_
                refine lv_iconst (v := nI 3) C.1 C.2.1 dX3_dropAt_87 (by decide) ?_
                refine lv_dup2_11 C.1 C.2.1 dX3_dropAt_88 rfl rfl ?_
                refine gIald (v := s_ms S j24) (j := 3) C hO (j24 + 5) (shC_at (by omega)) (by omega) (by first | decide | omega) ((hs24 j24 (by omega)).2.trans (if_neg (by omega))) dX3_dropAt_89 ?_
                refine lv_iconst (v := 1) C.1 C.2.1 dX3_dropAt_90 (by decide) ?_
                refine lv_iadd C.1 C.2.1 dX3_dropAt_91 ?_
                refine gIast (j := 3) (ws' := (sR E o (d_1 d) (d_2 d) (d_3 d) (s_hr S) (s_nx S) (s_dr S) (s_on S) (s_n S) (d_l d) (s_sc S) (d_s d) (s_sh S) (d_f d) ((q_w, .inl (eL E, (s_n S - 1), .inr (.inr (.inr (.inr g24))))) :: (shC E (d_a d) (va_up sr24 j24 (upd (sr24 j24) 3 ((s_ms S j24) + 1))) (s_sh S) ++ ((d_p d) ++ F))))) C hO (j24 + 5) (shC_at (by omega)) (by first | decide | omega) (by first | decide | omega) (congrArg (fun z9 => (sR E o (d_1 d) (d_2 d) (d_3 d) (s_hr S) (s_nx S) (s_dr S) (s_on S) (s_n S) (d_l d) (s_sc S) (d_s d) (s_sh S) (d_f d) ((q_w, .inl (eL E, (s_n S - 1), .inr (.inr (.inr (.inr g24))))) :: z9))) (shC_set (by omega) _)) dX3_dropAt_92 (fun H locs hO => ?_)
                refine gInc (j := j24) (k := 6) (lv' := [(5, .int (nI (j24 + 1))), (6, .ref ((d_a d) j24)), (0, .ref o), (1, .int (nI z0)), (2, .ref q_w), (3, .ref (d_3 d)), (4, .int (nI (s_sh S)))]) C.1 C.2.1 dX3_dropAt_93 hl rfl (by decide) rfl (fun ls hl => ?_)
                refine lv_goto (tgt := 57) C.1 C.2.1 dX3_dropAt_96 (by decide) ?_
                exact ih_lp25 (j24 + 1) (va_up sr24 j24 (upd (sr24 j24) 3 ((s_ms S j24) + 1))) (by omega) (by omega) (md_st hs24 hmd9) _ _ hO _ (lv_sub hl [2, 3, 4, 5, 6, 0] rfl)
        exact lp25 (s_sh S + 1) 0 (d_r d) (by omega) (Nat.zero_le _) (fun i hi => ⟨fun c hc => rfl, by rw [if_neg (Nat.not_lt_zero _)]; exact (hR.2.2 i hi).2.2.2.2.1⟩) _ _ hO _ (lv_sub hl [3, 4, 5, 2, 1, 0] rfl)
      · refine lv_aload_n C.1 C.2.1 dX3_dropAt_19 rfl (lv_at hl 2 rfl) ?_
        refine lv_iload_n C.1 C.2.1 dX3_dropAt_20 rfl (lv_at hl 3 rfl) ?_
        refine lv_aload_n C.1 C.2.1 dX3_dropAt_21 rfl (lv_at hl 0 rfl) ?_
        refine gGet (v := .ref (d_1 d)) (ref := RX3) (Cn := RX3) (T := TX3) (N := 7) C iX3 hO 0 rfl rfl 4 (by decide) w9 (fun _ h9 => h9) rfl dX3_dropAt_22 ?_
        refine lv_iload_n C.1 C.2.1 dX3_dropAt_25 rfl (lv_at hl 3 rfl) ?_
        refine lv_iload_n C.1 C.2.1 dX3_dropAt_26 rfl (lv_at hl 1 rfl) ?_
        refine gGeN (x := k24) (y := z0) (tgt := 34) C.1 C.2.1 (by omega) (by omega) dX3_dropAt_27 (by decide) (fun c_7 => ?_) (fun c_7 => ?_)
        · refine lv_iload_n C.1 C.2.1 dX3_dropAt_34 rfl (lv_at hl 3 rfl) ?_
          refine lv_iconst (v := 1) C.1 C.2.1 dX3_dropAt_35 (by decide) ?_
          refine gAddN (x := k24) (y := 1) C.1 C.2.1 dX3_dropAt_36 ?_
          obtain ⟨q_8, f_8, hq_8, hm_8, e0_8, e1_8, e2_8, e3_8⟩ := (hR).1 (k24 + 1) (by omega)
          refine gAaldA (v := q_8) (j := (k24 + 1)) C hO 1 rfl (by omega) (by omega) hq_8 dX3_dropAt_37 ?_
          have ha_10m : (q_8, (.inl (eI E, 4, .inl f_8) : va_E)) ∈ (sR E o (d_1 d) (d_2 d) (d_3 d) (s_hr S) (s_nx S) (s_dr S) (s_on S) (s_n S) (d_l d) (s_sc S) (d_s d) (s_sh S) (d_f d) ((q_w, .inl (eL E, (s_n S - 1), .inr (.inr (.inr (.inr g24))))) :: (shC E (d_a d) (d_r d) (s_sh S) ++ ((d_p d) ++ F)))) := sR_mem (.tail _ (pl_mem hm_8))
          obtain ⟨p_9, ha_10⟩ := List.getElem?_of_mem ha_10m
          refine gAastA (j := k24) (ws' := (sR E o (d_1 d) (d_2 d) (d_3 d) (s_hr S) (s_nx S) (s_dr S) (s_on S) (s_n S) (d_l d) (s_sc S) (d_s d) (s_sh S) (d_f d) ((q_w, .inl (eL E, (s_n S - 1), .inr (.inr (.inr (.inr (va_up g24 k24 (some q_8))))))) :: (shC E (d_a d) (d_r d) (s_sh S) ++ ((d_p d) ++ F))))) C hO 4 p_9 rfl ha_10 (by first | decide | omega) (by first | decide | omega) rfl dX3_dropAt_38 (fun H locs hO => ?_)
          refine gInc (j := k24) (k := 3) (lv' := [(3, .int (nI (k24 + 1))), (0, .ref o), (1, .int (nI z0)), (2, .ref q_w)]) C.1 C.2.1 dX3_dropAt_39 hl rfl (by decide) rfl (fun ls hl => ?_)
          refine lv_goto (tgt := 13) C.1 C.2.1 dX3_dropAt_42 (by decide) ?_
          exact ih_lp24 (k24 + 1) (va_up g24 k24 (some q_8)) (by omega) (by omega) (vup_ext (lf := fun i => d_l d (if i < z0 then i else i + 1)) hg24 (by show d_l d (if k24 < z0 then k24 else k24 + 1) = _; first | (rw [if_pos (by omega)]; exact hq_8) | (rw [if_neg (by omega)]; exact hq_8))) _ _ hO _ (lv_sub hl [1, 2, 3, 0] rfl)
        · refine lv_iload_n C.1 C.2.1 dX3_dropAt_30 rfl (lv_at hl 3 rfl) ?_
          refine lv_goto (tgt := 37) C.1 C.2.1 dX3_dropAt_31 (by decide) ?_
          obtain ⟨q_11, f_11, hq_11, hm_11, e0_11, e1_11, e2_11, e3_11⟩ := (hR).1 k24 (by omega)
          refine gAaldA (v := q_11) (j := k24) C hO 1 rfl (by omega) (by omega) hq_11 dX3_dropAt_37 ?_
          have ha_13m : (q_11, (.inl (eI E, 4, .inl f_11) : va_E)) ∈ (sR E o (d_1 d) (d_2 d) (d_3 d) (s_hr S) (s_nx S) (s_dr S) (s_on S) (s_n S) (d_l d) (s_sc S) (d_s d) (s_sh S) (d_f d) ((q_w, .inl (eL E, (s_n S - 1), .inr (.inr (.inr (.inr g24))))) :: (shC E (d_a d) (d_r d) (s_sh S) ++ ((d_p d) ++ F)))) := sR_mem (.tail _ (pl_mem hm_11))
          obtain ⟨p_12, ha_13⟩ := List.getElem?_of_mem ha_13m
          refine gAastA (j := k24) (ws' := (sR E o (d_1 d) (d_2 d) (d_3 d) (s_hr S) (s_nx S) (s_dr S) (s_on S) (s_n S) (d_l d) (s_sc S) (d_s d) (s_sh S) (d_f d) ((q_w, .inl (eL E, (s_n S - 1), .inr (.inr (.inr (.inr (va_up g24 k24 (some q_11))))))) :: (shC E (d_a d) (d_r d) (s_sh S) ++ ((d_p d) ++ F))))) C hO 4 p_12 rfl ha_13 (by first | decide | omega) (by first | decide | omega) rfl dX3_dropAt_38 (fun H locs hO => ?_)
          refine gInc (j := k24) (k := 3) (lv' := [(3, .int (nI (k24 + 1))), (0, .ref o), (1, .int (nI z0)), (2, .ref q_w)]) C.1 C.2.1 dX3_dropAt_39 hl rfl (by decide) rfl (fun ls hl => ?_)
          refine lv_goto (tgt := 13) C.1 C.2.1 dX3_dropAt_42 (by decide) ?_
          exact ih_lp24 (k24 + 1) (va_up g24 k24 (some q_11)) (by omega) (by omega) (vup_ext (lf := fun i => d_l d (if i < z0 then i else i + 1)) hg24 (by show d_l d (if k24 < z0 then k24 else k24 + 1) = _; first | (rw [if_pos (by omega)]; exact hq_11) | (rw [if_neg (by omega)]; exact hq_11))) _ _ hO _ (lv_sub hl [1, 2, 3, 0] rfl)
  refine W.widen (k := 1) (n := s_n S - 1) (by omega) (by omega) ?_
  exact lp24 (s_n S - 1 + 1) 0 (fun _ => none) (by omega) (Nat.zero_le _) (fun i hi => absurd hi (Nat.not_lt_zero _)) _ _ hO _ (lv_sub hl [2, 3, 1, 0] rfl)

set_option maxHeartbeats 4000000 in
set_option maxRecDepth 100000 in
theorem c_X3_say (l : Launch) (E : gE) (o : Nat) (d : Dt) (S : St) (F : va_W) (k v : Int32) (hR : Rep E d S) (hI : s_inv S) (hsr : s_srt S) : gMe l E yX3_say wsX3_say ({ frames := 1, cells := 3, slots := 100, locals := 26 }) (sW E o d S F) [.ref o, .int k, .int v] (fun (r : Int32) (d9 : Dt) => r = s_nx S ∧ Rep E d9 (S_spk S k v) ∧ (∀ x ∈ d_p d, x ∈ d_p d9) ∧ (d_1 d, (.inl (eL E, s_n S, .inr (.inr (.inr (.inr (d_l d))))) : va_E)) ∈ d_p d9) (fun (d9 : Dt) => sW E o d9 (S_spk S k v) F) 3 100 := by
  refine gMe.of (cc := cX3_say) (maxL := 3) (ty := .int) (by decide) rfl (Nat.le_of_ble_eq_true rfl) ?_
  intro p e s m args below meth c A C ls hl hO
  have hl : lv_has ls 3 [(0, .ref o), (1, .int k), (2, .int v)] := hl
  have iX3 : ∀ w ∈ u_ws RX3 TX3 7, w ∈ wsX3_say := by decide +kernel
  have w9 : Cond.fieldLink RX3 9 "ParrotLogLaw$Sim" "log" "[[I" ∈ wsX3_say := by decide +kernel
  have w29 : Cond.fieldLink RX3 29 "ParrotLogLaw$Sim" "next" "I" ∈ wsX3_say := by decide +kernel
  have w32 : Cond.fieldLink RX3 32 "ParrotLogLaw$Sim" "isOn" "Z" ∈ wsX3_say := by decide +kernel
  have w15 : Cond.fieldLink RX3 15 "ParrotLogLaw$Sim" "said" "[I" ∈ wsX3_say := by decide +kernel
  obtain ⟨hn, hsh, hsc, hOn, hOb, hok9, hpc9, hp0⟩ := hI
  refine lv_aload_n C.1 C.2.1 dX3_say_0 rfl (lv_at hl 0 rfl) ?_
  refine gGet (v := .ref (d_1 d)) (ref := RX3) (Cn := RX3) (T := TX3) (N := 7) C iX3 hO 0 rfl rfl 4 (by decide) w9 (fun _ h9 => h9) rfl dX3_say_1 ?_
  refine va_alen (v := nI (s_n S)) C.1 C.2.1 C.2.2.2.2.2.2.2.1.1 hO.1 1 3 rfl rfl rfl dX3_say_4 ?_
  refine lv_bipush (v := nI 48) C.1 C.2.1 dX3_say_5 (by decide) ?_
  have lb24 : ∀ (d24 : Dt) (S24 : St), (Rep E d24 S24) → (S24 = S_room S) → (s_n S24 < 48) → (∀ x ∈ d_p d, x ∈ d_p d24) → ((d_1 d, (.inl (eL E, s_n S, .inr (.inr (.inr (.inr (d_l d))))) : va_E)) = (d_1 d24, (.inl (eL E, s_n S24, .inr (.inr (.inr (.inr (d_l d24))))) : va_E)) ∨ (d_1 d, (.inl (eL E, s_n S, .inr (.inr (.inr (.inr (d_l d))))) : va_E)) ∈ d_p d24) → ∀ (H : Heap) (locs : List Loc), gO E A s (sW E o d24 S24 F) H locs → ∀ ls : Array Slot, lv_has ls 3 [(0, .ref o), (1, .int k), (2, .int v)] → W p l e ({ frames := 1, cells := 3, slots := 100, locals := 26 } : Room) s m args below meth c H locs 1 47 (MQ below (gQe E A (fun (r : Int32) (d9 : Dt) => r = s_nx S ∧ Rep E d9 (S_spk S k v) ∧ (∀ x ∈ d_p d, x ∈ d_p d9) ∧ (d_1 d, (.inl (eL E, s_n S, .inr (.inr (.inr (.inr (d_l d))))) : va_E)) ∈ d_p d9) (fun (d9 : Dt) => sW E o d9 (S_spk S k v) F)) args s 3 100 A) (F0 m 15 ls []) := by
    intro d24 S24 hR24 hS24 hn24 hp24 ho24 H locs hO ls hl
    refine lv_aload_n C.1 C.2.1 dX3_say_15 rfl (lv_at hl 0 rfl) ?_
    refine lv_aload_n C.1 C.2.1 dX3_say_16 rfl (lv_at hl 0 rfl) ?_
    refine gGet (v := .ref (d_1 d24)) (ref := RX3) (Cn := RX3) (T := TX3) (N := 7) C iX3 hO 0 rfl rfl 4 (by decide) w9 (fun _ h9 => h9) rfl dX3_say_17 ?_
    refine lv_iconst (v := nI 4) C.1 C.2.1 dX3_say_20 (by decide) ?_
    have hO : gO E A s ((sR E o (d_1 d24) (d_2 d24) (d_3 d24) (s_hr S24) (s_nx S24) (s_dr S24) (s_on S24) (s_n S24) (d_l d24) (s_sc S24) (d_s d24) (s_sh S24) (d_f d24) []) ++ (shC E (d_a d24) (d_r d24) (s_sh S24) ++ ((d_p d24) ++ F))) _ _ := hO
    refine gNewI (N9 := 4) C (C.2.2.2.2.1 (.arrayClass .int) (by decide +kernel)) hO (by first | decide | omega) (Nat.le_of_ble_eq_true rfl) (Nat.le_of_ble_eq_true rfl) dX3_say_21 (fun q_r H hO => ?_)
    have hO : gO E A s (sR E o (d_1 d24) (d_2 d24) (d_3 d24) (s_hr S24) (s_nx S24) (s_dr S24) (s_on S24) (s_n S24) (d_l d24) (s_sc S24) (d_s d24) (s_sh S24) (d_f d24) ((q_r, .inl (eI E, 4, .inl (fun _ => 0))) :: (shC E (d_a d24) (d_r d24) (s_sh S24) ++ ((d_p d24) ++ F)))) _ _ := hO
    refine lv_dup C.1 C.2.1 dX3_say_23 rfl ?_
    refine lv_iconst (v := 0) C.1 C.2.1 dX3_say_24 (by decide) ?_
    refine lv_aload_n C.1 C.2.1 dX3_say_25 rfl (lv_at hl 0 rfl) ?_
    refine gGet (v := .int (s_nx S24)) (ref := RX3) (Cn := RX3) (T := TX3) (N := 7) C iX3 hO 0 rfl rfl 1 (by decide) w29 (fun _ h9 => h9) rfl dX3_say_26 ?_
    refine gIast (j := 0) (ws' := (sR E o (d_1 d24) (d_2 d24) (d_3 d24) (s_hr S24) (s_nx S24) (s_dr S24) (s_on S24) (s_n S24) (d_l d24) (s_sc S24) (d_s d24) (s_sh S24) (d_f d24) ((q_r, .inl (eI E, 4, .inl (upd (fun _ => 0) 0 (s_nx S24)))) :: (shC E (d_a d24) (d_r d24) (s_sh S24) ++ ((d_p d24) ++ F))))) C hO 4 rfl (by first | decide | omega) (by first | decide | omega) rfl dX3_say_29 (fun H locs hO => ?_)
    refine lv_dup C.1 C.2.1 dX3_say_30 rfl ?_
    refine lv_iconst (v := 1) C.1 C.2.1 dX3_say_31 (by decide) ?_
    refine lv_iload_n C.1 C.2.1 dX3_say_32 rfl (lv_at hl 1 rfl) ?_
    refine gIast (j := 1) (ws' := (sR E o (d_1 d24) (d_2 d24) (d_3 d24) (s_hr S24) (s_nx S24) (s_dr S24) (s_on S24) (s_n S24) (d_l d24) (s_sc S24) (d_s d24) (s_sh S24) (d_f d24) ((q_r, .inl (eI E, 4, .inl (upd (upd (fun _ => 0) 0 (s_nx S24)) 1 k))) :: (shC E (d_a d24) (d_r d24) (s_sh S24) ++ ((d_p d24) ++ F))))) C hO 4 rfl (by first | decide | omega) (by first | decide | omega) rfl dX3_say_33 (fun H locs hO => ?_)
    refine lv_dup C.1 C.2.1 dX3_say_34 rfl ?_
    refine lv_iconst (v := nI 2) C.1 C.2.1 dX3_say_35 (by decide) ?_
    refine lv_iload_n C.1 C.2.1 dX3_say_36 rfl (lv_at hl 2 rfl) ?_
    refine gIast (j := 2) (ws' := (sR E o (d_1 d24) (d_2 d24) (d_3 d24) (s_hr S24) (s_nx S24) (s_dr S24) (s_on S24) (s_n S24) (d_l d24) (s_sc S24) (d_s d24) (s_sh S24) (d_f d24) ((q_r, .inl (eI E, 4, .inl (upd (upd (upd (fun _ => 0) 0 (s_nx S24)) 1 k) 2 v))) :: (shC E (d_a d24) (d_r d24) (s_sh S24) ++ ((d_p d24) ++ F))))) C hO 4 rfl (by first | decide | omega) (by first | decide | omega) rfl dX3_say_37 (fun H locs hO => ?_)
    refine lv_dup C.1 C.2.1 dX3_say_38 rfl ?_
    refine lv_iconst (v := nI 3) C.1 C.2.1 dX3_say_39 (by decide) ?_
    refine lv_aload_n C.1 C.2.1 dX3_say_40 rfl (lv_at hl 0 rfl) ?_
    refine gGet (v := .int (s_on S24)) (ref := RX3) (Cn := RX3) (T := TX3) (N := 7) C iX3 hO 0 rfl rfl 3 (by decide) w32 (fun _ h9 => h9) rfl dX3_say_41 ?_
    refine lv_if_eq (tgt := 57) C.1 C.2.1 dX3_say_44 (by decide) (fun c_1 => ?_) (fun c_1 => ?_)
    · have hon9 : s_on S24 = 0 := c_1
      refine lv_iconst (v := (-1)) C.1 C.2.1 dX3_say_57 (by decide) ?_
      refine gIast (j := 3) (ws' := (sR E o (d_1 d24) (d_2 d24) (d_3 d24) (s_hr S24) (s_nx S24) (s_dr S24) (s_on S24) (s_n S24) (d_l d24) (s_sc S24) (d_s d24) (s_sh S24) (d_f d24) ((q_r, .inl (eI E, 4, .inl (upd (upd (upd (upd (fun _ => 0) 0 (s_nx S24)) 1 k) 2 v) 3 (-1)))) :: (shC E (d_a d24) (d_r d24) (s_sh S24) ++ ((d_p d24) ++ F))))) C hO 4 rfl (by first | decide | omega) (by first | decide | omega) rfl dX3_say_58 (fun H locs hO => ?_)
      refine gCallS_g (As := [.ref (d_1 d24), .ref q_r]) (rest := [.ref o]) C hO (c_X3_with l E (sR E o (d_1 d24) (d_2 d24) (d_3 d24) (s_hr S24) (s_nx S24) (s_dr S24) (s_on S24) (s_n S24) (d_l d24) (s_sc S24) (d_s d24) (s_sh S24) (d_f d24) ((q_r, .inl (eI E, 4, .inl (upd (upd (upd (upd (fun _ => 0) 0 (s_nx S24)) 1 k) 2 v) 3 (-1)))) :: (shC E (d_a d24) (d_r d24) (s_sh S24) ++ ((d_p d24) ++ F)))) (d_1 d24) q_r (s_n S24) 4 1 4 (d_l d24) (upd (upd (upd (upd (fun _ => 0) 0 (s_nx S24)) 1 k) 2 v) 3 (-1)) rfl rfl (by omega) (fun i hi => by obtain ⟨q9, f9, h1, h2, _⟩ := hR24.1 i hi; exact ⟨q9, f9, 4, h1, sR_mem (.tail _ (pl_mem h2))⟩)) (cwS 2 C.2.2.2.2.1 gX3_say_X3_with rfl rfl rfl (by decide +kernel) ⟨(Nat.le_of_ble_eq_true rfl), (Nat.le_of_ble_eq_true rfl)⟩) rfl hl.1 rfl (Nat.le_of_ble_eq_true rfl) dX3_say_59 ⟨(Nat.le_of_ble_eq_true rfl), (Nat.le_of_ble_eq_true rfl)⟩ (fun g26 q_w H locs ⟨hg26, hg27⟩ hO => ?_)
      have hO : gO E A s (sR E o (d_1 d24) (d_2 d24) (d_3 d24) (s_hr S24) (s_nx S24) (s_dr S24) (s_on S24) (s_n S24) (d_l d24) (s_sc S24) (d_s d24) (s_sh S24) (d_f d24) ((q_w, .inl (eL E, (s_n S24 + 1), .inr (.inr (.inr (.inr g26))))) :: ((q_r, .inl (eI E, 4, .inl (upd (upd (upd (upd (fun _ => 0) 0 (s_nx S24)) 1 k) 2 v) 3 (-1)))) :: (shC E (d_a d24) (d_r d24) (s_sh S24) ++ ((d_p d24) ++ F))))) H locs := gO.frn (W0 := (sR E o (d_1 d24) (d_2 d24) (d_3 d24) (s_hr S24) (s_nx S24) (s_dr S24) (s_on S24) (s_n S24) (d_l d24) (s_sc S24) (d_s d24) (s_sh S24) (d_f d24) [])) hO
      refine gPut (ws' := (sQ E o q_w (d_2 d24) (d_3 d24) (d_1 d24) (d_2 d24) (d_3 d24) (s_hr S24) (s_nx S24) (s_dr S24) (s_on S24) (s_n S24) (d_l d24) (s_sc S24) (d_s d24) (s_sh S24) (d_f d24) ((q_w, .inl (eL E, (s_n S24 + 1), .inr (.inr (.inr (.inr g26))))) :: ((q_r, .inl (eI E, 4, .inl (upd (upd (upd (upd (fun _ => 0) 0 (s_nx S24)) 1 k) 2 v) 3 (-1)))) :: (shC E (d_a d24) (d_r d24) (s_sh S24) ++ ((d_p d24) ++ F)))))) (ref := RX3) (Cn := RX3) (T := TX3) (N := 7) C iX3 tyX3 tyX3_ok nmX3 hO 0 rfl rfl 4 (by decide) w9 (fun _ h9 => h9) rfl (by decide +kernel) rfl rfl (Nat.le_of_ble_eq_true rfl) rfl dX3_say_62 (fun H locs hO => ?_)
      have hO : gO E A s (sR E o q_w (d_2 d24) (d_3 d24) (s_hr S24) (s_nx S24) (s_dr S24) (s_on S24) (s_n S24 + 1) g26 (s_sc S24) (d_s d24) (s_sh S24) (d_f d24) (shC E (d_a d24) (d_r d24) (s_sh S24) ++ (((q_r, .inl (eI E, 4, .inl (upd (upd (upd (upd (fun _ => 0) 0 (s_nx S24)) 1 k) 2 v) 3 (-1)))) :: ((d_1 d24), .inl (eL E, (s_n S24), .inr (.inr (.inr (.inr (d_l d24)))))) :: (d_p d24)) ++ F))) _ _ := gO.log2 hO
      refine lv_aload_n C.1 C.2.1 dX3_say_65 rfl (lv_at hl 0 rfl) ?_
      refine gGet (v := .int (s_on S24)) (ref := RX3) (Cn := RX3) (T := TX3) (N := 7) C iX3 hO 0 rfl rfl 3 (by decide) w32 (fun _ h9 => h9) rfl dX3_say_66 ?_
      refine lv_if_eq (tgt := 88) C.1 C.2.1 dX3_say_69 (by decide) (fun c_2 => ?_) (fun c_2 => ?_)
      · refine lv_aload_n C.1 C.2.1 dX3_say_88 rfl (lv_at hl 0 rfl) ?_
        refine lv_dup C.1 C.2.1 dX3_say_89 rfl ?_
        refine gGet (v := .int (s_nx S24)) (ref := RX3) (Cn := RX3) (T := TX3) (N := 7) C iX3 hO 0 rfl rfl 1 (by decide) w29 (fun _ h9 => h9) rfl dX3_say_90 ?_
        refine lv_iconst (v := 1) C.1 C.2.1 dX3_say_93 (by decide) ?_
        refine lv_iadd C.1 C.2.1 dX3_say_94 ?_
        refine gPut (ws' := (sR E o q_w (d_2 d24) (d_3 d24) (s_hr S24) ((s_nx S24) + 1) (s_dr S24) (s_on S24) (s_n S24 + 1) g26 (s_sc S24) (d_s d24) (s_sh S24) (d_f d24) (shC E (d_a d24) (d_r d24) (s_sh S24) ++ (((q_r, .inl (eI E, 4, .inl (upd (upd (upd (upd (fun _ => 0) 0 (s_nx S24)) 1 k) 2 v) 3 (-1)))) :: ((d_1 d24), .inl (eL E, (s_n S24), .inr (.inr (.inr (.inr (d_l d24)))))) :: (d_p d24)) ++ F)))) (ref := RX3) (Cn := RX3) (T := TX3) (N := 7) C iX3 tyX3 tyX3_ok nmX3 hO 0 rfl rfl 1 (by decide) w29 (fun _ h9 => h9) rfl (by decide +kernel) rfl rfl (Nat.le_of_ble_eq_true rfl) rfl dX3_say_95 (fun H locs hO => ?_)
        refine lv_aload_n C.1 C.2.1 dX3_say_98 rfl (lv_at hl 0 rfl) ?_
        refine gGet (v := .int ((s_nx S24) + 1)) (ref := RX3) (Cn := RX3) (T := TX3) (N := 7) C iX3 hO 0 rfl rfl 1 (by decide) w29 (fun _ h9 => h9) rfl dX3_say_99 ?_
        refine lv_iconst (v := 1) C.1 C.2.1 dX3_say_102 (by decide) ?_
        refine lv_isub C.1 C.2.1 dX3_say_103 ?_
        have eS9 : S_spk S k v = S_app (S_said S24 (s_said S24)) k v (-1) := spk_off hS24 hon9 k v
        have hO : gO E A s (sW E o (mkD9 q_w (d_2 d24) (d_3 d24) g26 (d_s d24) (d_f d24) (d_a d24) (d_r d24) ((q_r, (.inl (eI E, 4, .inl (upd (upd (upd (upd (fun _ => 0) 0 (s_nx S24)) 1 k) 2 v) 3 (-1))) : va_E)) :: (d_1 d24, (.inl (eL E, s_n S24, .inr (.inr (.inr (.inr (d_l d24))))) : va_E)) :: d_p d24)) (S_spk S k v) F) H locs := by rw [eS9]; exact hO
        exact gRe (mkD9 q_w (d_2 d24) (d_3 d24) g26 (d_s d24) (d_f d24) (d_a d24) (d_r d24) ((q_r, (.inl (eI E, 4, .inl (upd (upd (upd (upd (fun _ => 0) 0 (s_nx S24)) 1 k) 2 v) 3 (-1))) : va_E)) :: (d_1 d24, (.inl (eL E, s_n S24, .inr (.inr (.inr (.inr (d_l d24))))) : va_E)) :: d_p d24)) C hO rfl (⟨by rw [Int32.add_sub_cancel, hS24, (s_tag_room S).2.2.2], by rw [eS9]; exact rep_app hR24 hg26 hg27 (hR24.2.1) rfl rfl rfl rfl, fun x hx => .tail _ (.tail _ (hp24 x hx)), ho24.elim (fun h => .tail _ (h ▸ .head _)) (fun h => .tail _ (.tail _ h))⟩) dX3_say_104 (Nat.le_of_ble_eq_true rfl) (Nat.le_of_ble_eq_true rfl)
      · exact absurd hon9 c_2
    · have hon9 : ¬ s_on S24 = 0 := c_1
      have hsc24 : s_sc S24 ≤ 8 := by rw [hS24, (s_tag_room S).2.2.1]; exact hsc
      have h1s : 1 ≤ s_sc S24 := by rw [hS24, (s_tag_room S).2.2.1]; exact hOn (by rw [← (s_tag_room S).2.1, ← hS24]; exact c_1)
      refine lv_aload_n C.1 C.2.1 dX3_say_47 rfl (lv_at hl 0 rfl) ?_
      refine gGet (v := .ref (d_2 d24)) (ref := RX3) (Cn := RX3) (T := TX3) (N := 7) C iX3 hO 0 rfl rfl 5 (by decide) w15 (fun _ h9 => h9) rfl dX3_say_48 ?_
      refine va_alen (v := nI (s_sc S24)) C.1 C.2.1 C.2.2.2.2.2.2.2.1.1 hO.1 2 0 rfl rfl rfl dX3_say_51 ?_
      refine lv_iconst (v := 1) C.1 C.2.1 dX3_say_52 (by decide) ?_
      refine gSubN (x := (s_sc S24)) (y := 1) C.1 C.2.1 h1s dX3_say_53 ?_
      refine lv_goto (tgt := 58) C.1 C.2.1 dX3_say_54 (by decide) ?_
      refine gIast (j := 3) (ws' := (sR E o (d_1 d24) (d_2 d24) (d_3 d24) (s_hr S24) (s_nx S24) (s_dr S24) (s_on S24) (s_n S24) (d_l d24) (s_sc S24) (d_s d24) (s_sh S24) (d_f d24) ((q_r, .inl (eI E, 4, .inl (upd (upd (upd (upd (fun _ => 0) 0 (s_nx S24)) 1 k) 2 v) 3 (nI ((s_sc S24) - 1))))) :: (shC E (d_a d24) (d_r d24) (s_sh S24) ++ ((d_p d24) ++ F))))) C hO 4 rfl (by first | decide | omega) (by first | decide | omega) rfl dX3_say_58 (fun H locs hO => ?_)
      refine gCallS_g (As := [.ref (d_1 d24), .ref q_r]) (rest := [.ref o]) C hO (c_X3_with l E (sR E o (d_1 d24) (d_2 d24) (d_3 d24) (s_hr S24) (s_nx S24) (s_dr S24) (s_on S24) (s_n S24) (d_l d24) (s_sc S24) (d_s d24) (s_sh S24) (d_f d24) ((q_r, .inl (eI E, 4, .inl (upd (upd (upd (upd (fun _ => 0) 0 (s_nx S24)) 1 k) 2 v) 3 (nI ((s_sc S24) - 1))))) :: (shC E (d_a d24) (d_r d24) (s_sh S24) ++ ((d_p d24) ++ F)))) (d_1 d24) q_r (s_n S24) 4 1 4 (d_l d24) (upd (upd (upd (upd (fun _ => 0) 0 (s_nx S24)) 1 k) 2 v) 3 (nI ((s_sc S24) - 1))) rfl rfl (by omega) (fun i hi => by obtain ⟨q9, f9, h1, h2, _⟩ := hR24.1 i hi; exact ⟨q9, f9, 4, h1, sR_mem (.tail _ (pl_mem h2))⟩)) (cwS 2 C.2.2.2.2.1 gX3_say_X3_with rfl rfl rfl (by decide +kernel) ⟨(Nat.le_of_ble_eq_true rfl), (Nat.le_of_ble_eq_true rfl)⟩) rfl hl.1 rfl (Nat.le_of_ble_eq_true rfl) dX3_say_59 ⟨(Nat.le_of_ble_eq_true rfl), (Nat.le_of_ble_eq_true rfl)⟩ (fun g26 q_w H locs ⟨hg26, hg27⟩ hO => ?_)
      have hO : gO E A s (sR E o (d_1 d24) (d_2 d24) (d_3 d24) (s_hr S24) (s_nx S24) (s_dr S24) (s_on S24) (s_n S24) (d_l d24) (s_sc S24) (d_s d24) (s_sh S24) (d_f d24) ((q_w, .inl (eL E, (s_n S24 + 1), .inr (.inr (.inr (.inr g26))))) :: ((q_r, .inl (eI E, 4, .inl (upd (upd (upd (upd (fun _ => 0) 0 (s_nx S24)) 1 k) 2 v) 3 (nI ((s_sc S24) - 1))))) :: (shC E (d_a d24) (d_r d24) (s_sh S24) ++ ((d_p d24) ++ F))))) H locs := gO.frn (W0 := (sR E o (d_1 d24) (d_2 d24) (d_3 d24) (s_hr S24) (s_nx S24) (s_dr S24) (s_on S24) (s_n S24) (d_l d24) (s_sc S24) (d_s d24) (s_sh S24) (d_f d24) [])) hO
      refine gPut (ws' := (sQ E o q_w (d_2 d24) (d_3 d24) (d_1 d24) (d_2 d24) (d_3 d24) (s_hr S24) (s_nx S24) (s_dr S24) (s_on S24) (s_n S24) (d_l d24) (s_sc S24) (d_s d24) (s_sh S24) (d_f d24) ((q_w, .inl (eL E, (s_n S24 + 1), .inr (.inr (.inr (.inr g26))))) :: ((q_r, .inl (eI E, 4, .inl (upd (upd (upd (upd (fun _ => 0) 0 (s_nx S24)) 1 k) 2 v) 3 (nI ((s_sc S24) - 1))))) :: (shC E (d_a d24) (d_r d24) (s_sh S24) ++ ((d_p d24) ++ F)))))) (ref := RX3) (Cn := RX3) (T := TX3) (N := 7) C iX3 tyX3 tyX3_ok nmX3 hO 0 rfl rfl 4 (by decide) w9 (fun _ h9 => h9) rfl (by decide +kernel) rfl rfl (Nat.le_of_ble_eq_true rfl) rfl dX3_say_62 (fun H locs hO => ?_)
      have hO : gO E A s (sR E o q_w (d_2 d24) (d_3 d24) (s_hr S24) (s_nx S24) (s_dr S24) (s_on S24) (s_n S24 + 1) g26 (s_sc S24) (d_s d24) (s_sh S24) (d_f d24) (shC E (d_a d24) (d_r d24) (s_sh S24) ++ (((q_r, .inl (eI E, 4, .inl (upd (upd (upd (upd (fun _ => 0) 0 (s_nx S24)) 1 k) 2 v) 3 (nI ((s_sc S24) - 1))))) :: ((d_1 d24), .inl (eL E, (s_n S24), .inr (.inr (.inr (.inr (d_l d24)))))) :: (d_p d24)) ++ F))) _ _ := gO.log2 hO
      refine lv_aload_n C.1 C.2.1 dX3_say_65 rfl (lv_at hl 0 rfl) ?_
      refine gGet (v := .int (s_on S24)) (ref := RX3) (Cn := RX3) (T := TX3) (N := 7) C iX3 hO 0 rfl rfl 3 (by decide) w32 (fun _ h9 => h9) rfl dX3_say_66 ?_
      refine lv_if_eq (tgt := 88) C.1 C.2.1 dX3_say_69 (by decide) (fun c_3 => ?_) (fun c_3 => ?_)
      · exact absurd c_3 hon9
      · refine lv_aload_n C.1 C.2.1 dX3_say_72 rfl (lv_at hl 0 rfl) ?_
        refine gGet (v := .ref (d_2 d24)) (ref := RX3) (Cn := RX3) (T := TX3) (N := 7) C iX3 hO 0 rfl rfl 5 (by decide) w15 (fun _ h9 => h9) rfl dX3_say_73 ?_
        refine lv_aload_n C.1 C.2.1 dX3_say_76 rfl (lv_at hl 0 rfl) ?_
        refine gGet (v := .ref (d_2 d24)) (ref := RX3) (Cn := RX3) (T := TX3) (N := 7) C iX3 hO 0 rfl rfl 5 (by decide) w15 (fun _ h9 => h9) rfl dX3_say_77 ?_
        refine va_alen (v := nI (s_sc S24)) C.1 C.2.1 C.2.2.2.2.2.2.2.1.1 hO.1 2 0 rfl rfl rfl dX3_say_80 ?_
        refine lv_iconst (v := 1) C.1 C.2.1 dX3_say_81 (by decide) ?_
        refine gSubN (x := (s_sc S24)) (y := 1) C.1 C.2.1 h1s dX3_say_82 ?_
        refine lv_dup2_11 C.1 C.2.1 dX3_say_83 rfl rfl ?_
        refine gIald (v := s_said S24 ((s_sc S24) - 1)) (j := ((s_sc S24) - 1)) C hO 2 rfl (by omega) (by first | decide | omega) ((hR24).2.1 ((s_sc S24) - 1) (by omega)) dX3_say_84 ?_
        refine lv_iconst (v := 1) C.1 C.2.1 dX3_say_85 (by decide) ?_
        refine lv_iadd C.1 C.2.1 dX3_say_86 ?_
        refine gIast (j := ((s_sc S24) - 1)) (ws' := (sR E o q_w (d_2 d24) (d_3 d24) (s_hr S24) (s_nx S24) (s_dr S24) (s_on S24) (s_n S24 + 1) g26 (s_sc S24) (upd (d_s d24) ((s_sc S24) - 1) ((s_said S24 ((s_sc S24) - 1)) + 1)) (s_sh S24) (d_f d24) (shC E (d_a d24) (d_r d24) (s_sh S24) ++ (((q_r, .inl (eI E, 4, .inl (upd (upd (upd (upd (fun _ => 0) 0 (s_nx S24)) 1 k) 2 v) 3 (nI ((s_sc S24) - 1))))) :: ((d_1 d24), .inl (eL E, (s_n S24), .inr (.inr (.inr (.inr (d_l d24)))))) :: (d_p d24)) ++ F)))) C hO 2 rfl (by first | decide | omega) (by first | decide | omega) rfl dX3_say_87 (fun H locs hO => ?_)
        refine lv_aload_n C.1 C.2.1 dX3_say_88 rfl (lv_at hl 0 rfl) ?_
        refine lv_dup C.1 C.2.1 dX3_say_89 rfl ?_
        refine gGet (v := .int (s_nx S24)) (ref := RX3) (Cn := RX3) (T := TX3) (N := 7) C iX3 hO 0 rfl rfl 1 (by decide) w29 (fun _ h9 => h9) rfl dX3_say_90 ?_
        refine lv_iconst (v := 1) C.1 C.2.1 dX3_say_93 (by decide) ?_
        refine lv_iadd C.1 C.2.1 dX3_say_94 ?_
        refine gPut (ws' := (sR E o q_w (d_2 d24) (d_3 d24) (s_hr S24) ((s_nx S24) + 1) (s_dr S24) (s_on S24) (s_n S24 + 1) g26 (s_sc S24) (upd (d_s d24) ((s_sc S24) - 1) ((s_said S24 ((s_sc S24) - 1)) + 1)) (s_sh S24) (d_f d24) (shC E (d_a d24) (d_r d24) (s_sh S24) ++ (((q_r, .inl (eI E, 4, .inl (upd (upd (upd (upd (fun _ => 0) 0 (s_nx S24)) 1 k) 2 v) 3 (nI ((s_sc S24) - 1))))) :: ((d_1 d24), .inl (eL E, (s_n S24), .inr (.inr (.inr (.inr (d_l d24)))))) :: (d_p d24)) ++ F)))) (ref := RX3) (Cn := RX3) (T := TX3) (N := 7) C iX3 tyX3 tyX3_ok nmX3 hO 0 rfl rfl 1 (by decide) w29 (fun _ h9 => h9) rfl (by decide +kernel) rfl rfl (Nat.le_of_ble_eq_true rfl) rfl dX3_say_95 (fun H locs hO => ?_)
        refine lv_aload_n C.1 C.2.1 dX3_say_98 rfl (lv_at hl 0 rfl) ?_
        refine gGet (v := .int ((s_nx S24) + 1)) (ref := RX3) (Cn := RX3) (T := TX3) (N := 7) C iX3 hO 0 rfl rfl 1 (by decide) w29 (fun _ h9 => h9) rfl dX3_say_99 ?_
        refine lv_iconst (v := 1) C.1 C.2.1 dX3_say_102 (by decide) ?_
        refine lv_isub C.1 C.2.1 dX3_say_103 ?_
        have eS9 : S_spk S k v = S_app (S_said S24 (upd (s_said S24) (s_sc S24 - 1) (s_said S24 (s_sc S24 - 1) + 1))) k v (nI (s_sc S24 - 1)) := spk_on hS24 hon9 k v
        have hO : gO E A s (sW E o (mkD9 q_w (d_2 d24) (d_3 d24) g26 (upd (d_s d24) ((s_sc S24) - 1) ((s_said S24 ((s_sc S24) - 1)) + 1)) (d_f d24) (d_a d24) (d_r d24) ((q_r, (.inl (eI E, 4, .inl (upd (upd (upd (upd (fun _ => 0) 0 (s_nx S24)) 1 k) 2 v) 3 (nI ((s_sc S24) - 1)))) : va_E)) :: (d_1 d24, (.inl (eL E, s_n S24, .inr (.inr (.inr (.inr (d_l d24))))) : va_E)) :: d_p d24)) (S_spk S k v) F) H locs := by rw [eS9]; exact hO
        exact gRe (mkD9 q_w (d_2 d24) (d_3 d24) g26 (upd (d_s d24) ((s_sc S24) - 1) ((s_said S24 ((s_sc S24) - 1)) + 1)) (d_f d24) (d_a d24) (d_r d24) ((q_r, (.inl (eI E, 4, .inl (upd (upd (upd (upd (fun _ => 0) 0 (s_nx S24)) 1 k) 2 v) 3 (nI ((s_sc S24) - 1)))) : va_E)) :: (d_1 d24, (.inl (eL E, s_n S24, .inr (.inr (.inr (.inr (d_l d24))))) : va_E)) :: d_p d24)) C hO rfl (⟨by rw [Int32.add_sub_cancel, hS24, (s_tag_room S).2.2.2], by rw [eS9]; exact rep_app hR24 hg26 hg27 (fun i hi => by unfold upd; split; rfl; exact hR24.2.1 i hi) rfl rfl rfl rfl, fun x hx => .tail _ (.tail _ (hp24 x hx)), ho24.elim (fun h => .tail _ (h ▸ .head _)) (fun h => .tail _ (.tail _ h))⟩) dX3_say_104 (Nat.le_of_ble_eq_true rfl) (Nat.le_of_ble_eq_true rfl)
  refine gNeN (x := (s_n S)) (y := 48) (tgt := 15) C.1 C.2.1 (by omega) (by omega) dX3_say_7 (by decide) (fun c_4 => ?_) (fun c_4 => ?_)
  · have hz9 : s_n S < 48 := by omega
    refine W.widen (k := 1) (n := 47) (by omega) (by omega) ?_
    exact lb24 d S hR (by unfold S_room; rw [if_pos hz9]) hz9 (fun x hx => hx) (Or.inl rfl) _ _ hO _ (lv_sub hl [0, 1, 2] rfl)
  · have hz9 : s_n S = 48 := by omega
    refine lv_aload_n C.1 C.2.1 dX3_say_10 rfl (lv_at hl 0 rfl) ?_
    refine lv_iconst (v := 0) C.1 C.2.1 dX3_say_11 (by decide) ?_
    refine gCall_f (As := [.int 0]) (rest := []) C hO (c_X3_dropAt l E o d S F 0 (by omega) hn hsh hsr hR) (cwV 1 C.2.2.2.2.1 gX3_say_X3_dropAt rfl rfl rfl (by decide +kernel) ⟨(Nat.le_of_ble_eq_true rfl), (Nat.le_of_ble_eq_true rfl)⟩) (va_recv C.2.2.2.2.2.2.2.1.1 hO.1 (ci := 3) (q0 := 0) rfl rfl) rfl hl.1 rfl (Nat.le_of_ble_eq_true rfl) dX3_say_12 ⟨(Nat.le_of_ble_eq_true rfl), (Nat.le_of_ble_eq_true rfl)⟩ (fun d25 H locs ⟨hR25, hp25, ho25⟩ hO => ?_)
    refine W.widen (k := 1) (n := 47) (by omega) (by omega) ?_
    exact lb24 d25 (S_drop S (g1 0)) hR25 (by rw [S_room_g1 (by omega)]) (by show cpN (g1 0) (s_n S) < 48; rw [cpN_g1z (by omega)]; omega) hp25 (Or.inr ho25) _ _ hO _ (lv_sub hl [0, 1, 2] rfl)
end
