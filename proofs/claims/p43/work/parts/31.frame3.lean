theorem mkU_ge {g mk : Nat → Int32} {n i : Nat} (h : ¬ i < n) : mkU g mk n i = mk i := by simp [mkU, h]
theorem S_spk_0 {S T : St} {k v : Int32} (h1 : S_room S = T) (h2 : s_on T = 0) (h3 : s_on T = s_on S) : S_spk S k v = S_app T k v (-1) := by
  unfold S_spk S_cntd s_tag
  rw [h1, ← h3, if_pos h2, if_pos h2]
theorem S_spk_1 {S T : St} {k v : Int32} (h1 : S_room S = T) (h2 : ¬ s_on T = 0) (h3 : s_on T = s_on S) (h4 : s_sc T = s_sc S) : S_spk S k v = S_app (S_said T (upd (s_said T) (s_sc T - 1) (s_said T (s_sc T - 1) + 1))) k v (nI (s_sc T - 1)) := by
  unfold S_spk S_cntd s_tag
  rw [h1, ← h3, ← h4, if_neg h2, if_neg h2]
theorem S_room_keep (S : St) : s_sc (S_room S) = s_sc S ∧ s_on (S_room S) = s_on S ∧ s_sh (S_room S) = s_sh S ∧ s_nx (S_room S) = s_nx S ∧ s_pc (S_room S) = s_pc S := by
  unfold S_room
  split <;> exact ⟨rfl, rfl, rfl, rfl, rfl⟩
theorem S_spk_keep (S : St) (k v : Int32) : s_sc (S_spk S k v) = s_sc S ∧ s_on (S_spk S k v) = s_on S ∧ s_sh (S_spk S k v) = s_sh S ∧ s_nx (S_spk S k v) = s_nx S + 1 ∧ s_n (S_spk S k v) = s_n (S_room S) + 1 ∧ s_pc (S_spk S k v) = s_pc S := by
  obtain ⟨h1, h2, h3, h4, h5⟩ := S_room_keep S
  have e : ∀ T : St, s_sc (S_cntd T) = s_sc T ∧ s_on (S_cntd T) = s_on T ∧ s_sh (S_cntd T) = s_sh T ∧ s_nx (S_cntd T) = s_nx T ∧ s_n (S_cntd T) = s_n T ∧ s_pc (S_cntd T) = s_pc T := by
    intro T
    unfold S_cntd
    split <;> exact ⟨rfl, rfl, rfl, rfl, rfl, rfl⟩
  obtain ⟨g1, g2, g3, g4, g5, g6⟩ := e (S_room S)
  refine ⟨g1.trans h1, g2.trans h2, g3.trans h3, ?_, ?_, g6.trans h5⟩
  · show s_nx (S_cntd (S_room S)) + 1 = _
    rw [g4, h4]
  · show s_n (S_cntd (S_room S)) + 1 = _
    rw [g5]
/-- what a replay says, one behind the other -/
def S_rp (S : St) (ks vs : Nat → Int32) : Nat → St
  | 0 => S
  | i + 1 => S_spk (S_rp S ks vs i) (ks i) (vs i)
def mk_rp (S : St) (ks vs mk : Nat → Int32) : Nat → (Nat → Int32)
  | 0 => mk
  | i + 1 => mk_spk (S_rp S ks vs i) (mk_rp S ks vs mk i)
theorem S_rp_congr {S : St} {ks vs ks' vs' mk : Nat → Int32} : ∀ n, (∀ i, i < n → ks i = ks' i ∧ vs i = vs' i) → S_rp S ks vs n = S_rp S ks' vs' n ∧ mk_rp S ks vs mk n = mk_rp S ks' vs' mk n := by
  intro n
  induction n with
  | zero => intro _; exact ⟨rfl, rfl⟩
  | succ n ih =>
    intro h
    obtain ⟨h1, h2⟩ := ih (fun i hi => h i (by omega))
    obtain ⟨h3, h4⟩ := h n (by omega)
    unfold S_rp mk_rp
    rw [h1, h2, h3, h4]
    exact ⟨rfl, rfl⟩
theorem S_rp_keep (S : St) (hn : s_n S ≤ 48) (ks vs : Nat → Int32) : ∀ i, s_sc (S_rp S ks vs i) = s_sc S ∧ s_on (S_rp S ks vs i) = s_on S ∧ s_sh (S_rp S ks vs i) = s_sh S ∧ s_n (S_rp S ks vs i) ≤ 48 ∧ s_pc (S_rp S ks vs i) = s_pc S := by
  intro i
  induction i with
  | zero => exact ⟨rfl, rfl, rfl, hn, rfl⟩
  | succ i ih =>
    obtain ⟨h1, h2, h3, h4, h5⟩ := ih
    obtain ⟨g1, g2, g3, g4, g5, g6⟩ := S_spk_keep (S_rp S ks vs i) (ks i) (vs i)
    have := S_room_n h4
    refine ⟨g1.trans h1, g2.trans h2, g3.trans h3, ?_, g6.trans h5⟩
    show s_n (S_spk (S_rp S ks vs i) (ks i) (vs i)) ≤ 48
    omega
abbrev s_rk (S : St) (x : Int32) : Nat → Int32 := flF (s_key S) (s_sto S) x (fun _ => 0) (s_n S)
abbrev s_rv (S : St) (x : Int32) : Nat → Int32 := flF (s_val S) (s_sto S) x (fun _ => 0) (s_n S)
def S_rpl (S : St) (x : Int32) : St := S_rp S (s_rk S x) (s_rv S x) (cnt (s_sto S) x (s_n S))
def mk_rpl (S : St) (x : Int32) (mk : Nat → Int32) : Nat → Int32 := mk_rp S (s_rk S x) (s_rv S x) mk (cnt (s_sto S) x (s_n S))
theorem S_rpl_of (S : St) (x : Int32) (g g' mk : Nat → Int32) : S_rp S (flF (s_key S) (s_sto S) x g (s_n S)) (flF (s_val S) (s_sto S) x g' (s_n S)) (cnt (s_sto S) x (s_n S)) = S_rpl S x ∧ mk_rp S (flF (s_key S) (s_sto S) x g (s_n S)) (flF (s_val S) (s_sto S) x g' (s_n S)) mk (cnt (s_sto S) x (s_n S)) = mk_rpl S x mk :=
  S_rp_congr _ (fun i hi => ⟨flF_eq _ _ _ _ _ _ _ hi, flF_eq _ _ _ _ _ _ _ hi⟩)
section GE3
variable {p : Program} {l : Launch} {e : Env} {R : Room} {s : State} {m : MethodId} {args : Array Value} {below : List Frame} {meth : Method} {c : Code} {H : Heap} {locs : List Loc} {cells slots : Nat} {Q : State → Prop}
variable {E : gE} {A : Nat → Prop} {ws ws' : va_W} {y : MethodName} {wl wl' : List Cond} {rm : Room} {av : List Value} {mc ms : Nat} {cc bytes : ByteArray} {maxL nL : Nat} {ret : Option FieldType} {Ts : List Cond} {own : String}
variable {pc : Nat} {ls : Array Slot} {rest : List Value} {index n : Nat} {Cn : String} {b : Nat} {As st0 : List Value} {host : String}
abbrev gXQr (E : gE) (A : Nat → Prop) (ok : Prop) (r : Nat) (ws' : va_W) : Array Value → State → Outcome → State → Prop := va_Qr (S := Unit) (fun _ => ok) (fun _ ra t => ra = r ∧ gB E A ws' t) A
def gXr (l : Launch) (E : gE) (y : MethodName) (wl : List Cond) (rm : Room) (ws : va_W) (av : List Value) (ok : Prop) (r : Nat) (ws' : va_W) (bad : String → Prop) (mc ms : Nat) : Prop := ∀ sz : Nat, vx_Met l y wl rm (gP E ws sz av) (gXQr E (va_A ws sz) ok r ws') (gXC E (va_A ws sz) bad ws) mc ms (va_A ws sz)
theorem gXr.of {ty : FieldType} {ok : Prop} {r : Nat} {bad : String → Prop} (hy : plainName y.cls = true) (hw : wl = Cond.code y cc maxL (some ty) :: wl') (hlen : (lg_sl av).length ≤ maxL)
    (body : ∀ p e s m args below meth c A, gCx p s m args meth c cc maxL wl y.cls (some ty) E A → (∀ x ∈ c.exceptionTable.toList, False) → ∀ ls : Array Slot, lv_has ls maxL (lv_args 0 av) → gO E A s ws s.heap [] → W p l e rm s m args below meth c s.heap [] 0 0 (vx_MQ below (gXQr E A ok r ws') (gXC E A bad ws) args s mc ms A) (F0 m 0 ls [])) : gXr l E y wl rm ws av ok r ws' bad mc ms := by
  intro sz
  refine vx_ofW (cc := cc) (maxL := maxL) (ret := some ty) hy hw ?_
  intro p e s m args below meth c s₁ B hml ht hv
  obtain ⟨rfl, hsz, hP, eo, hD0, hZ⟩ := hv
  have hts := atoms_spec (ws := wl) B.pre
  have hown : s.vm.findClass y.cls = some m.cls := findClass_of_methodNamed B.named
  subst hsz
  have hl := lv_entry av (n := maxL) hlen
  rw [lg_entry_eq]
  exact body p e s m av.toArray below meth c (va_A ws s.heap.size) ⟨B.exec, B.bytes, hml, hown, hts, B.returns, B.notSynchronized, eo, fun q h => Or.inr h, hZ⟩ ht _ hl ⟨hP, hD0.self (sz := s.heap.size), va_S.rf⟩
theorem gXRr {ty : FieldType} {r : Nat} {ok : Prop} {XC : String → State → State → Prop} (C : gCx p s m args meth c cc nL Ts own (some ty) E A) (hO : gO E A s ws' H locs) (hty : ∃ n, ty = .object n) (hok : ok) (hdg : decode cc pc = .ok (.areturn, 1)) (h1 : cells ≤ mc) (h2 : slots ≤ ms) : W p l e R s m args below meth c H locs cells slots (vx_MQ below (gXQr E A ok r ws') XC args s mc ms A) (F0 m pc ls [.ref r]) := by
  refine vx_ret (W.widen h1 h2 ?_)
  exact W.aret C.1 C.2.1 C.2.2.2.2.2.1 (Or.inl hty) (Or.inr ⟨r, rfl⟩) (fun t ht hW => ⟨⟨(), r, rfl, hok, rfl, by rw [ht]; exact hO.1, hO.2.1⟩, hO.2.2.F ht⟩) hO.2.2.2.2 hdg C.2.2.2.2.2.2.1
theorem gXcallr {S SX : Type} {post : S → Prop} {px : SX → Prop} {B : S → Nat → State → Prop} {BX : String → SX → State → Prop} {AX A0 A1 : Nat → Prop} {H0 : Heap} {a : Array Value} {free : Addr → Prop} (hr : vx_Run p l e R s m args below meth c H locs cells slots mc ms (F0 m pc ls st0) rest (va_Qr post B A1 a) (vx_X px BX AX) free) (hS : va_S A0 H0 H locs) (hA : ∀ q, q < H.size → A1 q → A0 q) (hf : ∀ q, free q → A0 q) (hAX : ∀ q, q < H.size → AX q → A0 q)
    (kx : ∀ (E : String) (ce : Cell) (q9 : Addr) (u : SX) (t : State) (H1 : Heap) (locs1 : List Loc), t.heap = H1 → s.vm.Alike t.vm → px u → BX E u t → H.size ≤ H1.size → (∀ q : Nat, q < H.size → ¬ AX q → H1[q]? = H[q]?) → va_S A0 H0 H1 locs1 → H1[q9]? = some ce → ce.vm = .none → s.vm.findClass E = some ce.cls → vx_W p l e R s m args below meth c H1 locs1 (cells + mc) (slots + ms) Q (F0 m pc ls rest) q9)
    (kk : ∀ (u : S) (ra : Nat) (t : State) (H1 : Heap) (locs1 : List Loc), t.heap = H1 → s.vm.Alike t.vm → post u → B u ra t → H.size ≤ H1.size → (∀ q : Nat, q < H.size → ¬ A1 q → H1[q]? = H[q]?) → va_S A0 H0 H1 locs1 → W p l e R s m args below meth c H1 locs1 (cells + mc) (slots + ms) Q (F0 m (pc + 3) ls (.ref ra :: rest))) : W p l e R s m args below meth c H locs cells slots Q (F0 m pc ls st0) := by
  intro T hT X
  rcases hr T hT X with ⟨v, st₀, t, T', L, h0, X', hL, e1, e2, ⟨⟨u, ra, hv, hp, hb⟩, hF⟩, st⟩ | ⟨q, st₀, t, T', L, E, ce, h0, X', hL, e1, e2, ⟨u, hp, hb, hF⟩, hce, hcv, hcl, st⟩
  · cases hv
    obtain ⟨k1, k2, k3⟩ := vx_keep h0 e1 hS hA hf hL hF
    obtain ⟨t2, a1, b1⟩ := kk u ra t T'.heap (locs ++ L) e1.symm (by rw [← e2]; exact X'.warmed.alike) hp hb k1 k2 k3 T' rfl X'
    exact ⟨t2, st t2 a1, b1⟩
  · obtain ⟨k1, k2, k3⟩ := vx_keep h0 e1 hS hAX hf hL hF
    obtain ⟨t2, a1, b1⟩ := kx E ce q u t T'.heap (locs ++ L) e1.symm (by rw [← e2]; exact X'.warmed.alike) hp hb k1 k2 k3 (by rw [e1]; exact hce) hcv hcl T' rfl X'
    exact ⟨t2, st.trans a1, b1⟩
theorem gXCall_r {r : Nat} {ok : Prop} {bad : String → Prop} (C : gCx p s m args meth c cc nL Ts own ret E A) (hO : gO E A s ws H locs) (hM : gXr l E y wl rm ws (.ref b :: As) ok r ws' bad mc ms) {ret1 : Option FieldType} (cw : CallW R s args own Cn index y bytes maxL ret1 wl rm mc ms n) (hrc : ∃ cell : Cell, H[b]? = some cell ∧ cell.vm.isStatics = false ∧ s.vm.findClass Cn = some cell.cls) (hn : As.length = n) (hsize : ls.size = nL) (hst : st0 = As.reverse ++ .ref b :: rest) (hW : (rest.map fun v => v.category).sum ≤ 8) (hdg : decode cc pc = .ok (.invokevirtual index, 3)) (hf : cells + mc ≤ R.cells ∧ slots + ms ≤ R.slots)
    (kx : ∀ (E0 : String) (ce : Cell) (q9 : Addr) (H1 : Heap) (locs1 : List Loc), gO E A s ws H1 locs1 → H1[q9]? = some ce → ce.vm = .none → s.vm.findClass E0 = some ce.cls → bad E0 → vx_W p l e R s m args below meth c H1 locs1 (cells + mc) (slots + ms) Q (F0 m pc ls rest) q9)
    (kk : ∀ (H1 : Heap) (locs1 : List Loc), gO E A s ws' H1 locs1 → ok → W p l e R s m args below meth c H1 locs1 (cells + mc) (slots + ms) Q (F0 m (pc + 3) ls (.ref r :: rest))) : W p l e R s m args below meth c H locs cells slots Q (F0 m pc ls st0) := by
  refine gXcallr (vx_runV (As := As) (rest := rest) C.fix (hM H.size) cw ⟨gP_blind, hrc, fun U hU hW => gPre C hO hU hW _⟩ rfl hn hsize hst (lv_room hW) hdg hf) hO.2.2 (fun q _ h => gO.free C.2.2.2.2.2.2.2.2.1 hO q h) (gO.free C.2.2.2.2.2.2.2.2.1 hO) (fun q _ h => gO.free C.2.2.2.2.2.2.2.2.1 hO q h) (fun E0 ce q9 u t H1 locs1 ht hvm hpx hBX hz1 hk1 hS hce hcv hcl => ?_) (fun u ra t H1 locs1 ht hvm hw hB hz1 hk1 hS => ?_)
  · exact kx E0 ce q9 H1 locs1 (gBack C hO ht hBX.2 hS) hce hcv hcl hBX.1
  · obtain ⟨hra, hB⟩ := hB
    subst hra
    exact kk H1 locs1 (gBack C hO ht hB hS) hw
end GE3
