-- COMPACTING, AS THE LAW DOES IT: from the last phrase on, one by one
theorem dR.sh {S T : St} {g : Nat → Int32} {sg : Nat → Nat} (h : dR S g T sg) : s_sh T = s_sh S := by
  obtain ⟨-, -, -, -, -, -, -, -, -, -, -, -, b6, -⟩ := h
  exact b6
theorem dR.at_ {S T : St} {g : Nat → Int32} {sg : Nat → Nat} (h : dR S g T sg) : s_at T = s_at S ∧ s_nx T = s_nx S := by
  obtain ⟨-, -, -, -, -, -, -, b1, -, -, -, -, -, -, b8, -⟩ := h
  exact ⟨b8, b1⟩
def fl1 (T : St) (t i : Nat) : Int32 := if lpO (s_key T) (s_key T (t - 1)) t i ≠ none then 1 else 0
theorem fl1_0 (T : St) (t : Nat) : fl1 T t t = 0 := by unfold fl1; rw [lpO_ge (Nat.le_refl _), if_neg (fun q => q rfl)]
theorem fl1_s1 {T : St} {t i : Nat} (h : s_key T i = s_key T (t - 1)) (hi : t ≤ i) : fl1 T t (i + 1) = 1 := by
  unfold fl1
  rw [lpO_s (by omega), show i + 1 - 1 = i by omega, if_pos h, if_pos (fun q => by cases q)]
theorem fl1_s0 {T : St} {t i : Nat} (h : ¬ s_key T i = s_key T (t - 1)) (hi : t ≤ i) : fl1 T t (i + 1) = fl1 T t i := by
  unfold fl1
  rw [lpO_s (by omega), show i + 1 - 1 = i by omega, if_neg h]
theorem fl1_k {T : St} {t i : Nat} (h : ¬ fl1 T t i = 0) (hi : t ≤ i) : fl1 T t (i + 1) = 1 := by
  by_cases hk : s_key T i = s_key T (t - 1)
  · exact fl1_s1 hk hi
  · rw [fl1_s0 hk hi]
    unfold fl1 at h ⊢
    by_cases q : lpO (s_key T) (s_key T (t - 1)) t i ≠ none
    · rw [if_pos q]
    · rw [if_neg q] at h; exact absurd rfl h
theorem lpO_last {key : Nat → Int32} {k : Int32} {fr : Nat} : ∀ {n i : Nat}, lpO key k fr n = some i → ∀ j, i < j → j < n → ¬ key j = k := by
  intro n
  induction n with
  | zero => intro i _ j _ h; exact absurd h (Nat.not_lt_zero _)
  | succ n ih =>
    intro i h j h1 h2
    unfold lpO at h
    split at h
    · split at h
      · cases h; omega
      · by_cases hj : j = n
        · subst hj; assumption
        · exact ih h j h1 (by omega)
    · cases h
/-- the latest one of its key -/
def lat9 (S : St) (i : Nat) : Prop := lpO (s_key S) (s_key S i) (i + 1) (s_n S) = none
def pst9 (S : St) (i : Nat) : Prop := s_val S i = 0 ∧ s_off S i < lst (s_at S) (s_nx S) (s_sh S)
def cI1 (S : St) (g : Nat → Int32) (t : Nat) : Prop := (∀ i, i < t → g i = 0) ∧ ∀ i, t ≤ i → i < s_n S → (g i = 0 ↔ lat9 S i)
theorem cI1_i (S : St) : cI1 S (fun _ => 0) (s_n S) := ⟨fun _ _ => rfl, fun i h1 h2 => absurd h2 (by omega)⟩
theorem old_iff {S T : St} {g : Nat → Int32} {sg : Nat → Nat} {t : Nat} (hD : dR S g T sg) (ht : t ≤ s_n S) (h0 : 0 < t) (hI : cI1 S g t) : fl1 T t (s_n T) = 0 ↔ lat9 S (t - 1) := by
  obtain ⟨l1, l2⟩ := hD.low ht hI.1
  have e9 : s_key T (t - 1) = s_key S (t - 1) := by rw [(hD.2.2.2.2.1 (t - 1) (by omega)).2.1, l2 (t - 1) (by omega)]
  unfold lat9 fl1
  rw [show t - 1 + 1 = t by omega, e9]
  have key : lpO (s_key T) (s_key S (t - 1)) t (s_n T) = none ↔ lpO (s_key S) (s_key S (t - 1)) t (s_n S) = none := by
    constructor
    · intro h
      cases hS : lpO (s_key S) (s_key S (t - 1)) t (s_n S) with
      | none => rfl
      | some i =>
        exfalso
        obtain ⟨i1, i2, i3⟩ := lpO_some hS
        have hl : lat9 S i := by
          unfold lat9
          cases hq : lpO (s_key S) (s_key S i) (i + 1) (s_n S) with
          | none => rfl
          | some j =>
            obtain ⟨j1, j2, j3⟩ := lpO_some hq
            exact absurd (j3.trans i3) (lpO_last hS j (by omega) j2)
        obtain ⟨j, hj, e⟩ := hD.2.2.2.1 i i2 ((hI.2 i i1 i2).mpr hl)
        have hjt : t ≤ j := by
          by_cases q : j < t
          · have := l2 j q; omega
          · omega
        refine lpO_none h j hjt hj ?_
        rw [(hD.2.2.2.2.1 j hj).2.1, e, i3]
    · intro h
      cases hT : lpO (s_key T) (s_key S (t - 1)) t (s_n T) with
      | none => rfl
      | some j =>
        exfalso
        obtain ⟨j1, j2, j3⟩ := lpO_some hT
        have h4 := hD.2.2.1 (t - 1) j (by omega) j2
        rw [l2 (t - 1) (by omega)] at h4
        refine lpO_none h (sg j) (by omega) (hD.2.1 j j2).1 ?_
        rw [← (hD.2.2.2.2.1 j j2).2.1, j3]
  by_cases q : lpO (s_key S) (s_key S (t - 1)) t (s_n S) = none
  · rw [if_neg (fun z => z (key.mpr q))]
    exact ⟨fun _ => q, fun _ => rfl⟩
  · rw [if_pos (fun z => q (key.mp z))]
    exact ⟨fun z => absurd z (by decide), fun z => absurd z q⟩
theorem cI1_0 {S : St} {g : Nat → Int32} {t : Nat} (hI : cI1 S g t) (h0 : 0 < t) (h : lat9 S (t - 1)) : cI1 S g (t - 1) := by
  refine ⟨fun i hi => hI.1 i (by omega), fun i h1 h2 => ?_⟩
  by_cases q : i = t - 1
  · rw [q]
    exact ⟨fun _ => h, fun _ => hI.1 _ (by omega)⟩
  · exact hI.2 i (by omega) h2
theorem cI1_1 {S : St} {g : Nat → Int32} {t : Nat} (hI : cI1 S g t) (h0 : 0 < t) (h : ¬ lat9 S (t - 1)) : cI1 S (upd g (t - 1) 1) (t - 1) := by
  refine ⟨fun i hi => ?_, fun i h1 h2 => ?_⟩
  · rw [upd, if_neg (by omega)]
    exact hI.1 i (by omega)
  · by_cases q : i = t - 1
    · rw [q, upd_at]
      exact ⟨fun z => absurd z (by decide), fun z => absurd z h⟩
    · rw [upd, if_neg q]
      exact hI.2 i (by omega) h2
def fl2 (T : St) (p j : Nat) : Int32 := if s_val T p = 0 ∧ s_off T p < lst (s_at T) (s_nx T) j then 1 else 0
theorem fl2_i1 {T : St} {p : Nat} (h : s_val T p = 0) (hx : s_off T p < s_nx T) : fl2 T p 0 = 1 := if_pos ⟨h, hx⟩
theorem fl2_i0 {T : St} {p : Nat} (h : ¬ s_val T p = 0) : fl2 T p 0 = 0 := if_neg (fun q => h q.1)
theorem lst_lt (sat : Nat → Int32) (nx x : Int32) (j : Nat) : x < lst sat nx (j + 1) ↔ x < lst sat nx j ∧ x < sat j := by
  show x < (if sat j < lst sat nx j then sat j else lst sat nx j) ↔ _
  by_cases h : sat j < lst sat nx j
  · rw [if_pos h]
    rw [Int32.lt_iff_toInt_lt] at h
    simp only [Int32.lt_iff_toInt_lt]
    omega
  · rw [if_neg h]
    rw [Int32.lt_iff_toInt_lt] at h
    simp only [Int32.lt_iff_toInt_lt]
    omega
theorem fl2_z {T : St} {p j : Nat} (h : fl2 T p j = 0) : fl2 T p (j + 1) = 0 := by
  unfold fl2 at h ⊢
  by_cases q : s_val T p = 0 ∧ s_off T p < lst (s_at T) (s_nx T) j
  · rw [if_pos q] at h; exact absurd h (by decide)
  · exact if_neg (fun z => q ⟨z.1, ((lst_lt _ _ _ _).mp z.2).1⟩)
theorem fl2_n {T : St} {p j : Nat} (h : ¬ s_off T p < s_at T j) : fl2 T p (j + 1) = 0 := if_neg (fun z => h ((lst_lt _ _ _ _).mp z.2).2)
theorem fl2_y {T : St} {p j : Nat} (h0 : ¬ fl2 T p j = 0) (h : s_off T p < s_at T j) : fl2 T p (j + 1) = 1 := by
  unfold fl2 at h0 ⊢
  by_cases q : s_val T p = 0 ∧ s_off T p < lst (s_at T) (s_nx T) j
  · exact if_pos ⟨q.1, (lst_lt _ _ _ _).mpr ⟨q.2, h⟩⟩
  · rw [if_neg q] at h0; exact absurd rfl h0
theorem fl2_iff {S T : St} {g : Nat → Int32} {sg : Nat → Nat} {p : Nat} (hD : dR S g T sg) (hp : p < s_n T) : fl2 T p (s_sh T) = 0 ↔ ¬ pst9 S (sg p) := by
  obtain ⟨m1, m2, m3, m4⟩ := hD.2.2.2.2.1 p hp
  unfold fl2 pst9
  rw [m1, m3, hD.at_.1, hD.at_.2, hD.sh]
  by_cases q : s_val S (sg p) = 0 ∧ s_off S (sg p) < lst (s_at S) (s_nx S) (s_sh S)
  · rw [if_pos q]
    exact ⟨fun z => absurd z (by decide), fun z => absurd q z⟩
  · rw [if_neg q]
    exact ⟨fun _ => q, fun _ => rfl⟩
def cI2 (S : St) (g : Nat → Int32) (T : St) (sg : Nat → Nat) (u b : Nat) : Prop := (∀ i, i < s_n S → (g i = 0 ↔ (lat9 S i ∧ ¬ (pst9 S i ∧ b ≤ i)))) ∧ ∀ j, j < s_n T → (sg j < b ↔ j < u)
theorem cI2_i {S T : St} {g : Nat → Int32} {sg : Nat → Nat} (hD : dR S g T sg) (hI : cI1 S g 0) : cI2 S g T sg (s_n T) (s_n S) := by
  refine ⟨fun i hi => ?_, fun j hj => ?_⟩
  · rw [hI.2 i (Nat.zero_le _) hi]
    exact ⟨fun h => ⟨h, fun q => by omega⟩, fun h => h.1⟩
  · exact ⟨fun _ => hj, fun _ => (hD.2.1 j hj).1⟩
/-- between the place of u - 1 and b nothing is kept -/
theorem cI2_gap {S T : St} {g : Nat → Int32} {sg : Nat → Nat} {u b : Nat} (hD : dR S g T sg) (hu : u ≤ s_n T) (h0 : 0 < u) (hI : cI2 S g T sg u b) {i : Nat} (h1 : sg (u - 1) < i) (h2 : i < b) (h3 : i < s_n S) : ¬ g i = 0 := by
  intro hg
  obtain ⟨j, hj, e⟩ := hD.2.2.2.1 i h3 hg
  have h4 := (hI.2 j hj).mp (by omega)
  by_cases q : j = u - 1
  · rw [q] at e; omega
  · have := hD.2.2.1 j (u - 1) (by omega) (by omega); omega
theorem cI2_0 {S T : St} {g : Nat → Int32} {sg : Nat → Nat} {u b : Nat} (hD : dR S g T sg) (hu : u ≤ s_n T) (h0 : 0 < u) (hI : cI2 S g T sg u b) (hp : ¬ pst9 S (sg (u - 1))) : cI2 S g T sg (u - 1) (sg (u - 1)) := by
  have hb := (hI.2 (u - 1) (by omega)).mpr (by omega)
  refine ⟨fun i hi => ?_, fun j hj => ?_⟩
  · rw [hI.1 i hi]
    refine ⟨fun h => ⟨h.1, fun q => ?_⟩, fun h => ⟨h.1, fun q => h.2 ⟨q.1, by omega⟩⟩⟩
    by_cases c1 : b ≤ i
    · exact h.2 ⟨q.1, c1⟩
    · by_cases c2 : i = sg (u - 1)
      · rw [c2] at q; exact hp q.1
      · exact cI2_gap hD hu h0 hI (by omega) (by omega) hi ((hI.1 i hi).mpr h)
  · refine ⟨fun h => ?_, fun h => hD.2.2.1 j (u - 1) h (by omega)⟩
    by_cases c1 : j < u - 1
    · exact c1
    · by_cases c2 : j = u - 1
      · rw [c2] at h; omega
      · have := hD.2.2.1 (u - 1) j (by omega) hj; omega
theorem cI2_1 {S T : St} {g : Nat → Int32} {sg : Nat → Nat} {u b : Nat} (hD : dR S g T sg) (hu : u ≤ s_n T) (h0 : 0 < u) (hI : cI2 S g T sg u b) (hp : pst9 S (sg (u - 1))) : cI2 S (upd g (sg (u - 1)) 1) (S_drop T (g1 (u - 1))) (fun j => sg (if j < u - 1 then j else j + 1)) (u - 1) (sg (u - 1)) := by
  have hb := (hI.2 (u - 1) (by omega)).mpr (by omega)
  have hu1 : u - 1 < s_n T := by omega
  have e9 : s_n (S_drop T (g1 (u - 1))) = s_n T - 1 := cpN_g1z hu1
  unfold cI2
  rw [e9]
  refine ⟨fun i hi => ?_, fun j hj => ?_⟩
  · by_cases c0 : i = sg (u - 1)
    · rw [c0, upd_at]
      exact ⟨fun z => absurd z (by decide), fun z => absurd ⟨hp, Nat.le_refl _⟩ z.2⟩
    · rw [upd, if_neg c0, hI.1 i hi]
      refine ⟨fun h => ⟨h.1, fun q => ?_⟩, fun h => ⟨h.1, fun q => h.2 ⟨q.1, by omega⟩⟩⟩
      by_cases c1 : b ≤ i
      · exact h.2 ⟨q.1, c1⟩
      · exact cI2_gap hD hu h0 hI (by omega) (by omega) hi ((hI.1 i hi).mpr h)
  · show sg (if j < u - 1 then j else j + 1) < sg (u - 1) ↔ j < u - 1
    by_cases c1 : j < u - 1
    · rw [if_pos c1]
      exact ⟨fun _ => c1, fun _ => hD.2.2.1 j (u - 1) c1 (by omega)⟩
    · rw [if_neg c1]
      refine ⟨fun h => ?_, fun h => absurd h c1⟩
      have := hD.2.2.1 (u - 1) (j + 1) (by omega) (by omega)
      omega
theorem s_cm_iff (S : St) (i : Nat) : s_cm S i = 0 ↔ (lat9 S i ∧ ¬ pst9 S i) := by
  unfold s_cm lat9 pst9
  by_cases q : lpO (s_key S) (s_key S i) (i + 1) (s_n S) ≠ none ∨ (s_val S i = 0 ∧ s_off S i < lst (s_at S) (s_nx S) (s_sh S))
  · rw [gComp_1 q]
    refine ⟨fun z => absurd z (by decide), fun z => ?_⟩
    rcases q with q | q
    · exact absurd z.1 q
    · exact absurd q z.2
  · rw [gComp_0 q]
    refine ⟨fun _ => ⟨?_, fun z => q (Or.inr z)⟩, fun _ => rfl⟩
    cases hl : lpO (s_key S) (s_key S i) (i + 1) (s_n S) with
    | none => rfl
    | some z => exact absurd (Or.inl (by rw [hl]; exact fun w => by cases w)) q
theorem cI2_e {S T : St} {g : Nat → Int32} {sg : Nat → Nat} {b : Nat} (hD : dR S g T sg) (hI : cI2 S g T sg 0 b) : ∀ i, i < s_n S → (g i = 0 ↔ s_cm S i = 0) := by
  intro i hi
  rw [s_cm_iff]
  constructor
  · intro hg
    obtain ⟨j, hj, e⟩ := hD.2.2.2.1 i hi hg
    have h2 := (hI.1 i hi).mp hg
    refine ⟨h2.1, fun q => h2.2 ⟨q, ?_⟩⟩
    by_cases c1 : b ≤ i
    · exact c1
    · exact absurd ((hI.2 j hj).mp (by omega)) (Nat.not_lt_zero _)
  · intro h
    exact (hI.1 i hi).mpr ⟨h.1, fun q => h.2 q.1⟩
