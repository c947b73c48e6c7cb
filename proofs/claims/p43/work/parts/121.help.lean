theorem mkU_sv {g mk : Nat → Int32} {n : Nat} {x : Int32} (h : g n = x) : mkU g mk (n + 1) = upd (mkU g mk n) n x := by rw [← mkU_s, h]
theorem nI_z {n : Nat} (hn : n < 1000000) (h : nI n = 0) : n = 0 := by
  have h2 : nI n = nI 0 := h
  exact (nI_eq (by omega) (by omega)).mp h2
theorem nI_p {t : Nat} (h : 0 < t) : nI t - 1 = nI (t - 1) := by
  obtain ⟨u, rfl⟩ : ∃ u, t = u + 1 := ⟨t - 1, by omega⟩
  rw [nI_pred]
  rfl
theorem iDec (x : Int32) : x + Int32.ofInt (-1) = x - 1 := by
  rw [Int32.sub_eq_add_neg]
  rfl
theorem lpO_s {key : Nat → Int32} {k : Int32} {fr t : Nat} (h : fr < t) : lpO key k fr t = if key (t - 1) = k then some (t - 1) else lpO key k fr (t - 1) := by
  obtain ⟨u, rfl⟩ : ∃ u, t = u + 1 := ⟨t - 1, by omega⟩
  show (if fr ≤ u then _ else _) = _
  rw [if_pos (by omega)]
  rfl
theorem lpO_ls {key : Nat → Int32} {k : Int32} {fr t : Nat} (hf : fr < 1000000) (ht : t < 1000000) : nI t - 1 < nI fr ↔ t ≤ fr := by
  by_cases h : 0 < t
  · rw [nI_p h, nI_ltI (by omega) (by omega)]; omega
  · have : t = 0 := by omega
    subst this
    refine ⟨fun _ => Nat.zero_le _, fun _ => ?_⟩
    rw [show nI 0 - 1 = (-1 : Int32) from rfl, Int32.lt_iff_toInt_lt, nI_toInt (by omega)]
    have : (-1 : Int32).toInt = -1 := rfl
    omega
theorem lpO_h {key : Nat → Int32} {k : Int32} {fr t : Nat} {o : Option Nat} (hn : lpO key k fr t = o) : o = none ∨ ∃ i, o = some i ∧ fr ≤ i ∧ i < t ∧ key i = k := by
  cases o with
  | none => exact Or.inl rfl
  | some i => exact Or.inr ⟨i, rfl, lpO_some hn⟩
theorem lpO_m1 {key : Nat → Int32} {k : Int32} {fr t : Nat} (ht : t < 1000000) (h : oI (lpO key k fr t) = -1) : lpO key k fr t = none := (oI_ne (fun i hi => by have := lpO_some hi; omega)).mp h
theorem lpO_nm1 {key : Nat → Int32} {k : Int32} {fr t : Nat} (h : ¬ oI (lpO key k fr t) = -1) : ∃ i, lpO key k fr t = some i ∧ fr ≤ i ∧ i < t ∧ key i = k := by
  rcases lpO_h (rfl : lpO key k fr t = _) with h1 | ⟨i, h1, h2⟩
  · rw [h1] at h; exact absurd rfl h
  · exact ⟨i, h1, h2⟩
/-- the rows of what a replay says again -/
def flF (f sto : Nat → Int32) (x : Int32) (g : Nat → Int32) : Nat → (Nat → Int32)
  | 0 => g
  | i + 1 => if sto i = x then upd (flF f sto x g i) (cnt sto x i) (f i) else flF f sto x g i
theorem flF_eq (f sto : Nat → Int32) (x : Int32) (g g' : Nat → Int32) : ∀ n i, i < cnt sto x n → flF f sto x g n i = flF f sto x g' n i := by
  intro n
  induction n with
  | zero => intro i h; exact absurd h (Nat.not_lt_zero _)
  | succ n ih =>
    intro i h
    unfold flF
    unfold cnt at h
    split
    · rename_i hc
      rw [if_pos hc] at h
      by_cases hi : i = cnt sto x n
      · simp [upd, hi]
      · simp only [upd, if_neg hi]
        exact ih i (by omega)
    · rename_i hc
      rw [if_neg hc] at h
      exact ih i (by omega)
theorem cnt_s1 {f : Nat → Int32} {x : Int32} {i : Nat} (h : f i = x) : cnt f x (i + 1) = cnt f x i + 1 := by show cnt f x i + _ = _; rw [if_pos h]
theorem cnt_s0 {f : Nat → Int32} {x : Int32} {i : Nat} (h : ¬ f i = x) : cnt f x (i + 1) = cnt f x i := by show cnt f x i + _ = _; rw [if_neg h]; rfl
theorem cm_s1 {mk : Nat → Int32} {fr i : Nat} (hf : fr ≤ i) (h : ¬ mk i = 0) : cm mk fr (i + 1) = cm mk fr i + 1 := by show cm mk fr i + _ = _; rw [if_pos ⟨hf, h⟩]
theorem cm_s0 {mk : Nat → Int32} {fr i : Nat} (h : mk i = 0) : cm mk fr (i + 1) = cm mk fr i := by show cm mk fr i + _ = _; rw [if_neg (fun q => q.2 h)]; rfl
theorem cp_s1 {mk : Nat → Int32} {i : Nat} (h : mk i = 0) : cpN mk (i + 1) = cpN mk i + 1 := by show (if _ then _ else _) = _; rw [if_pos h]
theorem cp_s0 {mk : Nat → Int32} {i : Nat} (h : ¬ mk i = 0) : cpN mk (i + 1) = cpN mk i := by show (if _ then _ else _) = _; rw [if_neg h]
theorem cf_s1 {mk f : Nat → Int32} {i : Nat} (h : mk i = 0) : cpF mk f (i + 1) = upd (cpF mk f i) (cpN mk i) (cpF mk f i i) := by show (if _ then _ else _) = _; rw [if_pos h]
theorem cf_s0 {mk f : Nat → Int32} {i : Nat} (h : ¬ mk i = 0) : cpF mk f (i + 1) = cpF mk f i := by show (if _ then _ else _) = _; rw [if_neg h]
theorem fl_s1 {f sto g : Nat → Int32} {x : Int32} {i : Nat} (h : sto i = x) : flF f sto x g (i + 1) = upd (flF f sto x g i) (cnt sto x i) (f i) := by show (if _ then _ else _) = _; rw [if_pos h]
theorem fl_s0 {f sto g : Nat → Int32} {x : Int32} {i : Nat} (h : ¬ sto i = x) : flF f sto x g (i + 1) = flF f sto x g i := by show (if _ then _ else _) = _; rw [if_neg h]
theorem gComp_1 {off key val : Nat → Int32} {n i : Nat} {q : Int32} (h : lpO key (key i) (i + 1) n ≠ none ∨ (val i = 0 ∧ off i < q)) : gComp off key val n q i = 1 := if_pos h
theorem gComp_0 {off key val : Nat → Int32} {n i : Nat} {q : Int32} (h : ¬ (lpO key (key i) (i + 1) n ≠ none ∨ (val i = 0 ∧ off i < q))) : gComp off key val n q i = 0 := if_neg h
/-- the place of the phrase with the offset o -/
def s_po (S : St) (o : Int32) : Option Nat := if pf (s_off S) o (s_n S) < s_n S ∧ s_off S (pf (s_off S) o (s_n S)) = o then some (pf (s_off S) o (s_n S)) else none
theorem s_po_1 {S : St} {o : Int32} (h1 : pf (s_off S) o (s_n S) < s_n S) (h2 : s_off S (pf (s_off S) o (s_n S)) = o) : s_po S o = some (pf (s_off S) o (s_n S)) := if_pos ⟨h1, h2⟩
theorem s_po_0 {S : St} {o : Int32} (h : ¬ (pf (s_off S) o (s_n S) < s_n S ∧ s_off S (pf (s_off S) o (s_n S)) = o)) : s_po S o = none := if_neg h
theorem s_po_lt {S : St} {o : Int32} {i : Nat} (h : s_po S o = some i) : i < s_n S := by
  unfold s_po at h
  split at h
  · rename_i hc; cases h; exact hc.1
  · cases h
/-- what a ship hears: from fr on, d phrases -/
def hk (key val : Nat → Int32) (fr : Nat) (k0 : Nat → Int32) : Nat → (Nat → Int32)
  | 0 => k0
  | d + 1 => upd (hk key val fr k0 d) (key (fr + d)).toNatClampNeg (val (fr + d))
/-- the keys that are kept count, up to 9 -/
def s_ok (S : St) : Prop := ∀ i, i < s_n S → (s_key S i).toNatClampNeg < 10 ∧ s_key S i = nI (s_key S i).toNatClampNeg
