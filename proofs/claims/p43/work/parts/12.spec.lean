/-- the place of the first of f entries from k on that is not less than o -/
def pfA (off : Nat → Int32) (o : Int32) : Nat → Nat → Nat
  | 0, k => k
  | f + 1, k => if off k < o then pfA off o f (k + 1) else k
def pf (off : Nat → Int32) (o : Int32) (n : Nat) : Nat := pfA off o n 0
theorem pfA_le (off : Nat → Int32) (o : Int32) : ∀ f k, pfA off o f k ≤ k + f := by
  intro f
  induction f with
  | zero => intro k; exact Nat.le_refl _
  | succ f ih =>
    intro k
    unfold pfA
    split
    · have := ih (k + 1); omega
    · omega
theorem pfA_ge (off : Nat → Int32) (o : Int32) : ∀ f k, k ≤ pfA off o f k := by
  intro f
  induction f with
  | zero => intro k; exact Nat.le_refl _
  | succ f ih =>
    intro k
    unfold pfA
    split
    · have := ih (k + 1); omega
    · omega
theorem pfA_lt (off : Nat → Int32) (o : Int32) : ∀ f k j, k ≤ j → j < pfA off o f k → off j < o := by
  intro f
  induction f with
  | zero => intro k j h1 h2; exact absurd h2 (by simp only [pfA]; omega)
  | succ f ih =>
    intro k j h1 h2
    unfold pfA at h2
    split at h2
    · rename_i hc
      by_cases hj : j = k
      · subst hj; exact hc
      · exact ih (k + 1) j (by omega) h2
    · omega
theorem pfA_stop (off : Nat → Int32) (o : Int32) : ∀ f k, pfA off o f k < k + f → ¬ off (pfA off o f k) < o := by
  intro f
  induction f with
  | zero => intro k h; exact absurd h (by simp only [pfA]; omega)
  | succ f ih =>
    intro k h
    unfold pfA at h ⊢
    split
    · rename_i hc
      rw [if_pos hc] at h
      exact ih (k + 1) (by omega)
    · assumption
theorem pf_le (off : Nat → Int32) (o : Int32) (n : Nat) : pf off o n ≤ n := by have := pfA_le off o n 0; unfold pf; omega
theorem pf_lt {off : Nat → Int32} {o : Int32} {n j : Nat} (h : j < pf off o n) : off j < o := pfA_lt off o n 0 j (Nat.zero_le _) h
theorem pf_stop {off : Nat → Int32} {o : Int32} {n : Nat} (h : pf off o n < n) : ¬ off (pf off o n) < o := by have := pfA_stop off o n 0; unfold pf at h ⊢; exact this (by omega)
/-- the last place with this key, not less than fr and less than t -/
def lpO (key : Nat → Int32) (k : Int32) (fr : Nat) : Nat → Option Nat
  | 0 => none
  | t + 1 => if fr ≤ t then (if key t = k then some t else lpO key k fr t) else none
def oI : Option Nat → Int32
  | none => -1
  | some i => nI i
theorem lpO_some {key : Nat → Int32} {k : Int32} {fr : Nat} : ∀ {t i : Nat}, lpO key k fr t = some i → fr ≤ i ∧ i < t ∧ key i = k := by
  intro t
  induction t with
  | zero => intro i h; cases h
  | succ t ih =>
    intro i h
    unfold lpO at h
    split at h
    · split at h
      · cases h; exact ⟨by assumption, by omega, by assumption⟩
      · obtain ⟨h1, h2, h3⟩ := ih h; exact ⟨h1, by omega, h3⟩
    · cases h
theorem lpO_none {key : Nat → Int32} {k : Int32} {fr : Nat} : ∀ {t : Nat}, lpO key k fr t = none → ∀ i, fr ≤ i → i < t → key i ≠ k := by
  intro t
  induction t with
  | zero => intro _ i _ h; omega
  | succ t ih =>
    intro h i h1 h2
    unfold lpO at h
    split at h
    · split at h
      · cases h
      · by_cases hi : i = t
        · subst hi; assumption
        · exact ih h i h1 (by omega)
    · omega
theorem lpO_ge {key : Nat → Int32} {k : Int32} {fr t : Nat} (h : t ≤ fr) : lpO key k fr t = none := by
  cases t with
  | zero => rfl
  | succ t => unfold lpO; rw [if_neg (by omega)]
theorem oI_ne {o : Option Nat} (h : ∀ i, o = some i → i < 1000000) : (oI o = -1) ↔ o = none := by
  cases o with
  | none => exact ⟨fun _ => rfl, fun _ => rfl⟩
  | some i =>
    refine ⟨fun h1 => ?_, fun h1 => by cases h1⟩
    have h2 := nI_pos (n := i) (by have := h i rfl; omega)
    have h3 : oI (some i) = nI i := rfl
    rw [h3] at h1
    rw [h1] at h2
    exact absurd (by decide) h2
/-- how many of the first i entries are x -/
def cnt (f : Nat → Int32) (x : Int32) : Nat → Nat
  | 0 => 0
  | i + 1 => cnt f x i + (if f i = x then 1 else 0)
theorem cnt_le (f : Nat → Int32) (x : Int32) : ∀ i, cnt f x i ≤ i := by
  intro i
  induction i with
  | zero => exact Nat.le_refl _
  | succ i ih => unfold cnt; split <;> omega
/-- how many of the entries from fr on, of the first i, are marked -/
def cm (mk : Nat → Int32) (fr : Nat) : Nat → Nat
  | 0 => 0
  | i + 1 => cm mk fr i + (if fr ≤ i ∧ ¬ mk i = 0 then 1 else 0)
theorem cm_le (mk : Nat → Int32) (fr : Nat) : ∀ i, cm mk fr i ≤ i := by
  intro i
  induction i with
  | zero => exact Nat.le_refl _
  | succ i ih => unfold cm; split <;> omega
theorem cm_fr (mk : Nat → Int32) (fr : Nat) : ∀ i, i ≤ fr → cm mk fr i = 0 := by
  intro i
  induction i with
  | zero => intro _; rfl
  | succ i ih => intro h; unfold cm; rw [ih (by omega), if_neg (by omega)]
/-- the rows behind a drop of all that is marked -/
def cpN (mk : Nat → Int32) : Nat → Nat
  | 0 => 0
  | i + 1 => if mk i = 0 then cpN mk i + 1 else cpN mk i
def cpF (mk : Nat → Int32) (f : Nat → Int32) : Nat → (Nat → Int32)
  | 0 => f
  | i + 1 => if mk i = 0 then upd (cpF mk f i) (cpN mk i) (cpF mk f i i) else cpF mk f i
theorem cpN_le (mk : Nat → Int32) : ∀ i, cpN mk i ≤ i := by
  intro i
  induction i with
  | zero => exact Nat.le_refl _
  | succ i ih => unfold cpN; split <;> omega
theorem cpF_ge (mk f : Nat → Int32) : ∀ i j, cpN mk i ≤ j → i ≤ j → cpF mk f i j = f j := by
  intro i
  induction i with
  | zero => intro j _ _; rfl
  | succ i ih =>
    intro j h1 h2
    unfold cpF
    have := cpN_le mk i
    split
    · rw [upd, if_neg (by omega)]; exact ih j (by omega) (by omega)
    · exact ih j (by omega) (by omega)
/-- g in the first n places, mk behind them -/
def mkU (g mk : Nat → Int32) (n : Nat) : Nat → Int32 := fun i => if i < n then g i else mk i
theorem mkU_0 (g mk : Nat → Int32) : mkU g mk 0 = mk := by funext i; simp [mkU]
theorem mkU_s (g mk : Nat → Int32) (n : Nat) : upd (mkU g mk n) n (g n) = mkU g mk (n + 1) := by
  funext i
  unfold upd mkU
  by_cases h : i = n
  · subst h; simp
  · by_cases h2 : i < n
    · simp [h, h2, Nat.lt_succ_of_lt h2]
    · have h3 : ¬ i < n + 1 := by omega
      simp [h, h2, h3]
theorem mkU_at {g mk : Nat → Int32} {n i : Nat} (h : i < n) : mkU g mk n i = g i := by simp [mkU, h]
def gFirst : Nat → Int32 := fun i => if i = 0 then 1 else 0
def gAhead (off : Nat → Int32) (o : Int32) : Nat → Int32 := fun i => if off i < o then 1 else 0
def gComp (off key val : Nat → Int32) (n : Nat) (least : Int32) : Nat → Int32 := fun i => if lpO key (key i) (i + 1) n ≠ none ∨ (val i = 0 ∧ off i < least) then 1 else 0
/-- the least of nx and the offsets of the first s ships -/
def lst (sat : Nat → Int32) (nx : Int32) : Nat → Int32
  | 0 => nx
  | s + 1 => if sat s < lst sat nx s then sat s else lst sat nx s
def s_cm (S : St) : Nat → Int32 := gComp (s_off S) (s_key S) (s_val S) (s_n S) (lst (s_at S) (s_nx S) (s_sh S))
abbrev S_app (S : St) (k v t : Int32) : St := mkS (upd (s_off S) (s_n S) (s_nx S)) (upd (s_key S) (s_n S) k) (upd (s_val S) (s_n S) v) (upd (s_sto S) (s_n S) t) (s_n S + 1) (s_nx S + 1) (s_dr S) (s_hr S) (s_sc S) (s_on S) (s_said S) (s_sh S) (s_pc S) (s_at S) (s_hd S) (s_ms S) (s_kn S)
/-- the rows behind removing what is marked -/
abbrev S_rem (S : St) (mk : Nat → Int32) : St := mkS (cpF mk (s_off S) (s_n S)) (cpF mk (s_key S) (s_n S)) (cpF mk (s_val S) (s_n S)) (cpF mk (s_sto S) (s_n S)) (cpN mk (s_n S)) (s_nx S) (s_dr S + nI (s_n S - cpN mk (s_n S))) (s_hr S) (s_sc S) (s_on S) (s_said S) (s_sh S) (s_pc S) (s_at S) (s_hd S) (s_ms S) (s_kn S)
abbrev s_lo (S : St) (k : Int32) : Int32 := match lpO (s_key S) k 0 (s_n S) with | none => -1 | some i => s_off S i
abbrev s_wv (S : St) (k : Int32) : Int32 := match lpO (s_key S) k 0 (s_n S) with | none => 0 | some i => s_val S i
