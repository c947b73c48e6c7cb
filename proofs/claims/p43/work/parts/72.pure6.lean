-- WHAT STAYS TRUE OF THE LOG, FOR WHAT THE LAW ASKS
theorem and_nn (x : Int32) : ¬ (x &&& 2147483647) < 0 := by
  have h : (x &&& 2147483647).toBitVec.msb = false := by
    rw [Int32.toBitVec_and, BitVec.msb_and, show (2147483647 : Int32).toBitVec.msb = false by decide, Bool.and_false]
  have h2 : 0 ≤ (x &&& 2147483647).toInt := by
    show 0 ≤ (x &&& 2147483647).toBitVec.toInt
    rw [BitVec.toInt_eq_msb_cond, h]
    simp
  rw [Int32.lt_iff_toInt_lt, show (0 : Int32).toInt = 0 from rfl]
  omega
def bw (v n : Int32) : Int32 := (v &&& 2147483647) - (v &&& 2147483647) / n * n
theorem bw_lt (v : Int32) {z : Nat} (h0 : 0 < z) (hz : z < 2 ^ 31) : ∃ j, j < z ∧ bw v (nI z) = nI j := by
  obtain ⟨w, hw, e⟩ := nI_of (and_nn v)
  unfold bw
  rw [e, pk_rem hw h0 hz]
  exact ⟨w % z, Nat.mod_lt _ h0, rfl⟩
theorem iAdd9 {x : Int32} {k : Nat} (h0 : 0 ≤ x.toInt) (h1 : x.toInt + k < 2147483648) : (x + nI k).toInt = x.toInt + k := by
  rw [Int32.toInt_add, nI_toInt (by omega)]
  exact Int.bmod_eq_of_le (by omega) (by omega)
def xI (S : St) : Prop :=
  (0 ≤ (s_dr S).toInt ∧ (s_dr S).toInt + (s_n S : Int) = (s_nx S).toInt) ∧
  (∀ i, i < s_sh S → 0 ≤ (s_at S i).toInt ∧ (s_at S i).toInt ≤ (s_nx S).toInt ∧ 0 ≤ (s_ms S i).toInt ∧ (s_ms S i).toInt ≤ (s_dr S).toInt) ∧
  (∀ i, s_sh S ≤ i → s_hd S i = 0 ∧ s_ms S i = 0 ∧ ∀ c, s_kn S i c = 0) ∧
  (∀ i, s_sc S ≤ i → s_said S i = 0) ∧
  (∀ i, i < s_n S → s_sto S i = -1 ∨ ∃ t, t < s_sc S ∧ s_sto S i = nI t) ∧
  (∀ t, t < s_sc S → (cnt (s_sto S) (nI t) (s_n S) : Int) ≤ (s_said S t).toInt ∧ (s_said S t).toInt ≤ (s_nx S).toInt)
def J9 (S : St) (B : Int) : Prop := lwI S B ∧ xI S
theorem J9.mono {S : St} {B B2 : Int} (h : J9 S B) (hb : B ≤ B2) : J9 S B2 := ⟨h.1.mono hb, h.2⟩
theorem cm_cpN (g : Nat → Int32) (fr : Nat) : ∀ n, cm g fr n + cpN g n ≤ n := by
  intro n
  induction n with
  | zero => exact Nat.le_refl _
  | succ n ih =>
    by_cases h : g n = 0
    · rw [cm_s0 h, cp_s1 h]; omega
    · rw [cp_s0 h]
      by_cases hf : fr ≤ n
      · rw [cm_s1 hf h]; omega
      · have e : cm g fr (n + 1) = cm g fr n := by
          show cm g fr n + _ = _
          rw [if_neg (fun q => hf q.1)]; rfl
        rw [e]; omega
theorem cnt_ext {f g : Nat → Int32} {x : Int32} : ∀ n, (∀ i, i < n → f i = g i) → cnt f x n = cnt g x n := by
  intro n
  induction n with
  | zero => intro _; rfl
  | succ n ih => intro h; unfold cnt; rw [ih (fun i hi => h i (by omega)), h n (by omega)]
theorem cnt_push (f : Nat → Int32) (x v : Int32) (n : Nat) : cnt (upd f n v) x (n + 1) = cnt f x n + (if v = x then 1 else 0) := by
  show cnt (upd f n v) x n + (if upd f n v n = x then 1 else 0) = _
  rw [upd_at, cnt_ext (f := upd f n v) (g := f) n (fun i hi => by rw [upd, if_neg (by omega)])]
theorem cnt_cpF (g f : Nat → Int32) (x : Int32) : ∀ n, cnt (cpF g f n) x (cpN g n) ≤ cnt f x n := by
  intro n
  induction n with
  | zero => exact Nat.le_refl _
  | succ n ih =>
    by_cases h : g n = 0
    · rw [cp_s1 h, cf_s1 h, cnt_push, cpF_ge g f n n (cpN_le g n) (Nat.le_refl _)]
      show _ ≤ cnt f x n + (if f n = x then 1 else 0)
      omega
    · rw [cp_s0 h, cf_s0 h]
      show _ ≤ cnt f x n + (if f n = x then 1 else 0)
      omega
theorem xI.drop {S : St} {B : Int} (h : xI S) (hl : lgI S B) (hB : B < 2147483647) (g : Nat → Int32) : xI (S_drop S g) := by
  obtain ⟨⟨a1, a2⟩, a3, a4, a5, a6, a7⟩ := h
  obtain ⟨b1, b2, b3, b4, b5, b6⟩ := hl
  have hle := cpN_le g (s_n S)
  have ed : (s_dr S + nI (s_n S - cpN g (s_n S))).toInt = (s_dr S).toInt + ((s_n S - cpN g (s_n S) : Nat) : Int) := iAdd9 a1 (by omega)
  obtain ⟨sg, c1, c2, c3⟩ := cp_sig g (s_n S)
  refine ⟨⟨?_, ?_⟩, fun i hi => ?_, fun i hi => ?_, a5, fun i hi => ?_, fun t ht => ?_⟩
  · show 0 ≤ (s_dr S + nI (s_n S - cpN g (s_n S))).toInt
    omega
  · show (s_dr S + nI (s_n S - cpN g (s_n S))).toInt + ((cpN g (s_n S) : Nat) : Int) = (s_nx S).toInt
    omega
  · obtain ⟨q1, q2, q3, q4⟩ := a3 i hi
    have hc := cm_cpN g (pf (s_off S) (s_at S i) (s_n S)) (s_n S)
    have hi : i < s_sh S := hi
    refine ⟨q1, q2, ?_⟩
    show 0 ≤ (s_md S g i).toInt ∧ (s_md S g i).toInt ≤ (s_dr S + nI (s_n S - cpN g (s_n S))).toInt
    unfold s_md
    rw [mkU_at hi, ed, iAdd9 q3 (by omega)]
    omega
  · obtain ⟨q1, q2, q3⟩ := a4 i hi
    refine ⟨q1, ?_, q3⟩
    have hi : s_sh S ≤ i := hi
    show s_md S g i = 0
    unfold s_md mkU
    rw [if_neg (by omega), q2]
  · have hi : i < cpN g (s_n S) := hi
    show cpF g (s_sto S) (s_n S) i = -1 ∨ ∃ t, t < s_sc S ∧ cpF g (s_sto S) (s_n S) i = nI t
    rw [c3 _ i hi]
    exact a6 _ (c1 i hi)
  · have := cnt_cpF g (s_sto S) (nI t) (s_n S)
    have := a7 t ht
    show (cnt (cpF g (s_sto S) (s_n S)) (nI t) (cpN g (s_n S)) : Int) ≤ (s_said S t).toInt ∧ (s_said S t).toInt ≤ (s_nx S).toInt
    omega
theorem J9.drop {S : St} {B : Int} (h : J9 S B) (hB : B < 2147483647) (g : Nat → Int32) : J9 (S_drop S g) B := ⟨h.1.drop g, h.2.drop h.1.1 hB g⟩
theorem m1_nI {t : Nat} (h : t < 1000000) : ¬ (-1 : Int32) = nI t := fun q => nI_pos (n := t) (by omega) (by rw [← q]; decide)
theorem xI.app {S : St} {B : Int} (h : xI S) (hl : lgI S B) (hf : flI S) (hB : B < 2147483647) (k v : Int32) : xI (S_app (S_cntd S) k v (s_tag S)) := by
  obtain ⟨⟨a1, a2⟩, a3, a4, a5, a6, a7⟩ := h
  obtain ⟨b1, b2, b3, b4, b5, b6⟩ := hl
  obtain ⟨f1, f2, f3, f4, f5⟩ := hf
  have e9 := nx_s9 b5 (by omega)
  have base : ∀ (sd : Nat → Int32) (tg : Int32), (∀ i, s_sc S ≤ i → sd i = 0) → (tg = -1 ∨ ∃ t, t < s_sc S ∧ tg = nI t) → (∀ t, t < s_sc S → ((cnt (s_sto S) (nI t) (s_n S) + (if tg = nI t then 1 else 0) : Nat) : Int) ≤ (sd t).toInt ∧ (sd t).toInt ≤ (s_nx S).toInt + 1) → xI (S_app (S_said S sd) k v tg) := by
    intro sd tg h1 h2 h3
    refine ⟨⟨a1, ?_⟩, fun i hi => ?_, a4, h1, fun i hi => ?_, fun t ht => ?_⟩
    · show (s_dr S).toInt + ((s_n S + 1 : Nat) : Int) = (s_nx S + 1).toInt
      rw [e9]; omega
    · obtain ⟨q1, q2, q3, q4⟩ := a3 i hi
      exact ⟨q1, by show (s_at S i).toInt ≤ (s_nx S + 1).toInt; rw [e9]; omega, q3, q4⟩
    · have hi : i < s_n S + 1 := hi
      show upd (s_sto S) (s_n S) tg i = -1 ∨ ∃ t, t < s_sc S ∧ upd (s_sto S) (s_n S) tg i = nI t
      by_cases q : i = s_n S
      · rw [q, upd_at]; exact h2
      · rw [upd, if_neg q]; exact a6 i (by omega)
    · show (cnt (upd (s_sto S) (s_n S) tg) (nI t) (s_n S + 1) : Int) ≤ (sd t).toInt ∧ (sd t).toInt ≤ (s_nx S + 1).toInt
      rw [cnt_push, e9]
      exact h3 t ht
  by_cases hon : s_on S = 0
  · have e1 : S_cntd S = S_said S (s_said S) := by unfold S_cntd; rw [if_pos hon]
    have e2 : s_tag S = -1 := by unfold s_tag; rw [if_pos hon]
    rw [e1, e2]
    refine base _ _ a5 (Or.inl rfl) (fun t ht => ?_)
    have := a7 t ht
    rw [if_neg (m1_nI (by omega))]
    omega
  · have hs1 := f3 hon
    have e1 : S_cntd S = S_said S (upd (s_said S) (s_sc S - 1) (s_said S (s_sc S - 1) + 1)) := by unfold S_cntd; rw [if_neg hon]
    have e2 : s_tag S = nI (s_sc S - 1) := by unfold s_tag; rw [if_neg hon]
    rw [e1, e2]
    refine base _ _ (fun i hi => by rw [upd, if_neg (by omega)]; exact a5 i hi) (Or.inr ⟨_, by omega, rfl⟩) (fun t ht => ?_)
    have h7 := a7 t ht
    by_cases q : t = s_sc S - 1
    · rw [q] at h7 ⊢
      rw [upd_at, if_pos rfl, nx_s9 (by omega) (by omega)]
      omega
    · rw [upd, if_neg q, if_neg (fun z => q ((nI_eq (by omega) (by omega)).mp z).symm)]
      omega
theorem J9.spk {S : St} {B : Int} (h : J9 S B) (hB : B + 1 < 2147483647) {k : Int32} (hk : ky9 k) (v : Int32) : J9 (S_spk S k v) (B + 1) := by
  refine ⟨h.1.spk (by omega) hk v, ?_⟩
  have hr : xI (S_room S) := by
    unfold S_room
    split
    · exact h.2
    · exact h.2.drop h.1.1 (by omega) gFirst
  have hf : flI (S_room S) := by
    unfold S_room
    split
    · exact h.1.2
    · exact (h.1.drop gFirst).2
  unfold S_spk
  rw [← (s_tag_room S).1]
  exact hr.app h.1.1.room hf (by omega) k v
theorem J9.rp {S : St} {B : Int} (h : J9 S B) (ks vs : Nat → Int32) : ∀ n : Nat, (∀ i, i < n → ky9 (ks i)) → B + n < 2147483647 → J9 (S_rp S ks vs n) (B + n) := by
  intro n
  induction n with
  | zero => intro _ _; exact h.mono (by omega)
  | succ n ih9 =>
    intro h1 h2
    have h3 := ih9 (fun i hi => h1 i (by omega)) (by omega)
    exact (h3.spk (by omega) (h1 n (by omega)) (vs n)).mono (by omega)
theorem J9.rpl {S : St} {B : Int} (h : J9 S B) (hB : B + 48 < 2147483647) (x : Int32) : J9 (S_rpl S x) (B + 48) := by
  have h1 := cnt_le9 (s_sto S) x (s_n S)
  have h2 := h.1.1.1
  exact (h.rp (s_rk S x) (s_rv S x) _ (h.1.rk x) (by omega)).mono (by omega)
theorem cnt_none {f : Nat → Int32} {x : Int32} : ∀ n, (∀ i, i < n → ¬ f i = x) → cnt f x n = 0 := by
  intro n
  induction n with
  | zero => intro _; rfl
  | succ n ih => intro h; rw [cnt_s0 (h n (by omega)), ih (fun i hi => h i (by omega))]
theorem J9.storm1 {S : St} {B : Int} (h : J9 S B) (hs : s_sc S < 8) : J9 (S_storm S 1 (s_sc S + 1)) B := by
  refine ⟨h.1.storm1 hs, ?_⟩
  obtain ⟨a1, a3, a4, a5, a6, a7⟩ := h.2
  refine ⟨a1, a3, a4, fun i hi => a5 i (by have hi : s_sc S + 1 ≤ i := hi; omega), fun i hi => ?_, fun t ht => ?_⟩
  · rcases a6 i hi with q | ⟨t, q1, q2⟩
    · exact Or.inl q
    · exact Or.inr ⟨t, by show t < s_sc S + 1; omega, q2⟩
  · have ht : t < s_sc S + 1 := ht
    by_cases q : t = s_sc S
    · show (cnt (s_sto S) (nI t) (s_n S) : Int) ≤ (s_said S t).toInt ∧ (s_said S t).toInt ≤ (s_nx S).toInt
      rw [q, a5 _ (Nat.le_refl _), cnt_none]
      · have := h.1.1.2.2.2.2.1
        rw [show (0 : Int32).toInt = 0 from rfl]
        omega
      · intro i hi e
        rcases a6 i hi with z | ⟨t2, z1, z2⟩
        · exact m1_nI (by omega) (z.symm.trans e)
        · have := (nI_eq (by omega) (by omega)).mp (z2.symm.trans e)
          omega
    · exact a7 t (by omega)
theorem J9.storm0 {S : St} {B : Int} (h : J9 S B) : J9 (S_storm S 0 (s_sc S)) B := ⟨h.1.storm0, h.2⟩
theorem J9.ship {S : St} {B : Int} (h : J9 S B) {q o : Int32} (hp : okPace q) (hs : s_sh S < 6) (h0 : 0 ≤ o.toInt) (h1 : o.toInt ≤ (s_nx S).toInt) : J9 (S_ship S q o) B := by
  refine ⟨h.1.ship hp hs, ?_⟩
  obtain ⟨a1, a3, a4, a5, a6, a7⟩ := h.2
  refine ⟨a1, fun i hi => ?_, fun i hi => a4 i (by have hi : s_sh S + 1 ≤ i := hi; omega), a5, a6, a7⟩
  have hi : i < s_sh S + 1 := hi
  show 0 ≤ (upd (s_at S) (s_sh S) o i).toInt ∧ (upd (s_at S) (s_sh S) o i).toInt ≤ (s_nx S).toInt ∧ 0 ≤ (s_ms S i).toInt ∧ (s_ms S i).toInt ≤ (s_dr S).toInt
  by_cases z : i = s_sh S
  · rw [z, upd_at, (a4 _ (Nat.le_refl _)).2.1]
    exact ⟨h0, h1, by decide, a1.1⟩
  · rw [upd, if_neg z]
    exact a3 i (by omega)
theorem J9.seek {S : St} {B : Int} (h : J9 S B) {z : Nat} {o : Int32} (h0 : 0 ≤ o.toInt) (h1 : o.toInt ≤ (s_nx S).toInt) : J9 (S_at S (upd (s_at S) z o)) B := by
  refine ⟨h.1.at_ _, ?_⟩
  obtain ⟨a1, a3, a4, a5, a6, a7⟩ := h.2
  refine ⟨a1, fun i hi => ?_, a4, a5, a6, a7⟩
  show 0 ≤ (upd (s_at S) z o i).toInt ∧ (upd (s_at S) z o i).toInt ≤ (s_nx S).toInt ∧ 0 ≤ (s_ms S i).toInt ∧ (s_ms S i).toInt ≤ (s_dr S).toInt
  obtain ⟨q1, q2, q3, q4⟩ := a3 i hi
  by_cases e : i = z
  · rw [e, upd_at, ← e]
    exact ⟨h0, h1, q3, q4⟩
  · rw [upd, if_neg e]
    exact ⟨q1, q2, q3, q4⟩
theorem J9.pass {S : St} {B : Int} (h : J9 S B) (hB : B < 2147483647) (x : Int32) : J9 (S_pass S x) B := by
  refine ⟨h.1.pass x, ?_⟩
  obtain ⟨a1, a3, a4, a5, a6, a7⟩ := h.2
  obtain ⟨b1, b2, b3, b4, b5, b6⟩ := h.1.1
  obtain ⟨k1, k2, k3, k4, k5, k6, k7⟩ := S_ps_keep S x.toNatClampNeg (s_sh S)
  obtain ⟨k8, k9⟩ := S_ps_keep2 S x.toNatClampNeg (s_sh S)
  obtain ⟨m1, m2, m3, m4⟩ := S_ps_keep3 S x.toNatClampNeg (s_sh S)
  obtain ⟨p1, p2, p3, p4⟩ := S_ps_pt S x.toNatClampNeg (s_sh S)
  show xI (S_hrs (S_ps S x.toNatClampNeg (s_sh S)) (s_hr S + x))
  unfold xI
  show (0 ≤ (s_dr (S_ps S x.toNatClampNeg (s_sh S))).toInt ∧ (s_dr (S_ps S x.toNatClampNeg (s_sh S))).toInt + (s_n (S_ps S x.toNatClampNeg (s_sh S)) : Int) = (s_nx (S_ps S x.toNatClampNeg (s_sh S))).toInt) ∧
    (∀ i, i < s_sh (S_ps S x.toNatClampNeg (s_sh S)) → 0 ≤ (s_at (S_ps S x.toNatClampNeg (s_sh S)) i).toInt ∧ (s_at (S_ps S x.toNatClampNeg (s_sh S)) i).toInt ≤ (s_nx (S_ps S x.toNatClampNeg (s_sh S))).toInt ∧ 0 ≤ (s_ms (S_ps S x.toNatClampNeg (s_sh S)) i).toInt ∧ (s_ms (S_ps S x.toNatClampNeg (s_sh S)) i).toInt ≤ (s_dr (S_ps S x.toNatClampNeg (s_sh S))).toInt) ∧
    (∀ i, s_sh (S_ps S x.toNatClampNeg (s_sh S)) ≤ i → s_hd (S_ps S x.toNatClampNeg (s_sh S)) i = 0 ∧ s_ms (S_ps S x.toNatClampNeg (s_sh S)) i = 0 ∧ ∀ c, s_kn (S_ps S x.toNatClampNeg (s_sh S)) i c = 0) ∧
    (∀ i, s_sc (S_ps S x.toNatClampNeg (s_sh S)) ≤ i → s_said (S_ps S x.toNatClampNeg (s_sh S)) i = 0) ∧
    (∀ i, i < s_n (S_ps S x.toNatClampNeg (s_sh S)) → s_sto (S_ps S x.toNatClampNeg (s_sh S)) i = -1 ∨ ∃ t, t < s_sc (S_ps S x.toNatClampNeg (s_sh S)) ∧ s_sto (S_ps S x.toNatClampNeg (s_sh S)) i = nI t) ∧
    (∀ t, t < s_sc (S_ps S x.toNatClampNeg (s_sh S)) → (cnt (s_sto (S_ps S x.toNatClampNeg (s_sh S))) (nI t) (s_n (S_ps S x.toNatClampNeg (s_sh S))) : Int) ≤ (s_said (S_ps S x.toNatClampNeg (s_sh S)) t).toInt ∧ (s_said (S_ps S x.toNatClampNeg (s_sh S)) t).toInt ≤ (s_nx (S_ps S x.toNatClampNeg (s_sh S))).toInt)
  rw [m1, m2, m3, m4, k3, k4, k8, k9]
  refine ⟨a1, fun i hi => ?_, fun i hi => ?_, a5, a6, a7⟩
  · obtain ⟨q1, q2, q3, q4⟩ := a3 i hi
    refine ⟨?_, ?_, q3, q4⟩ <;> rw [p1, if_pos hi] <;> unfold atv <;> split
    · exact q1
    · have hd := s_dh_n S x.toNatClampNeg i
      obtain ⟨z1, z2⟩ := b4 (pf (s_off S) (s_at S i) (s_n S) + s_dh S x.toNatClampNeg i - 1) (by omega)
      rw [nx_s9 z1 (by omega)]; omega
    · exact q2
    · have hd := s_dh_n S x.toNatClampNeg i
      obtain ⟨z1, z2⟩ := b4 (pf (s_off S) (s_at S i) (s_n S) + s_dh S x.toNatClampNeg i - 1) (by omega)
      rw [nx_s9 z1 (by omega)]; omega
  · obtain ⟨q1, q2, q3⟩ := a4 i hi
    refine ⟨by rw [p2, if_neg (by omega)]; exact q1, q2, fun c => ?_⟩
    rw [p3, if_neg (by omega)]
    exact q3 c
theorem J9_0 : J9 S0 0 := ⟨lwI_0, ⟨by decide, by decide⟩, fun i hi => absurd hi (Nat.not_lt_zero _), fun i _ => ⟨rfl, rfl, fun _ => rfl⟩, fun i _ => rfl, fun i hi => absurd hi (Nat.not_lt_zero _), fun t ht => absurd ht (Nat.not_lt_zero _)⟩
