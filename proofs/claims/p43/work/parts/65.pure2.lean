-- PHRASES DROPPED ONE BY ONE: T is S without those that g marks; sg: where each of T stands in S
def oth (S T : St) : Prop := s_nx T = s_nx S ∧ s_hr T = s_hr S ∧ s_sc T = s_sc S ∧ s_on T = s_on S ∧ s_said T = s_said S ∧ s_sh T = s_sh S ∧ s_pc T = s_pc S ∧ s_at T = s_at S ∧ s_hd T = s_hd S ∧ s_kn T = s_kn S
def dR (S : St) (g : Nat → Int32) (T : St) (sg : Nat → Nat) : Prop :=
  s_n T ≤ s_n S ∧ (∀ j, j < s_n T → sg j < s_n S ∧ g (sg j) = 0) ∧ (∀ i j, i < j → j < s_n T → sg i < sg j) ∧ (∀ i, i < s_n S → g i = 0 → ∃ j, j < s_n T ∧ sg j = i) ∧
  (∀ j, j < s_n T → s_off T j = s_off S (sg j) ∧ s_key T j = s_key S (sg j) ∧ s_val T j = s_val S (sg j) ∧ s_sto T j = s_sto S (sg j)) ∧
  (∀ i, i < s_sh S → s_ms T i = s_ms S i + nI (cmo g (s_off S) (s_at S i) (s_n S))) ∧ s_dr T = s_dr S + nI (s_n S - s_n T) ∧ oth S T
theorem cmo_z (off : Nat → Int32) (o : Int32) : ∀ n, cmo (fun _ => 0) off o n = 0 := by
  intro n
  induction n with
  | zero => rfl
  | succ n ih => rw [cmo_00 rfl, ih]
theorem cmo_upd {g off : Nat → Int32} {o : Int32} {z : Nat} (hz : g z = 0) : ∀ n, cmo (upd g z 1) off o n = cmo g off o n + (if z < n ∧ ¬ off z < o then 1 else 0) := by
  intro n
  induction n with
  | zero => rw [if_neg (by omega)]; rfl
  | succ n ih =>
    unfold cmo
    rw [ih]
    by_cases h : n = z
    · subst h
      have e1 : ¬ upd g n 1 n = 0 := by rw [upd_at]; decide
      rw [if_neg (show ¬ (n < n ∧ ¬ off n < o) from fun q => Nat.lt_irrefl _ q.1), if_neg (show ¬ (¬ g n = 0 ∧ ¬ off n < o) from fun q => q.1 hz)]
      by_cases ho : off n < o
      · rw [if_neg (fun q => q.2 ho), if_neg (fun q => q.2 ho)]
      · rw [if_pos ⟨e1, ho⟩, if_pos ⟨Nat.lt_succ_self n, ho⟩]
    · have e1 : upd g z 1 n = g n := by rw [upd, if_neg h]
      rw [e1]
      have e2 : (z < n + 1 ∧ ¬ off z < o) ↔ (z < n ∧ ¬ off z < o) := ⟨fun q => ⟨by omega, q.2⟩, fun q => ⟨by omega, q.2⟩⟩
      by_cases h2 : z < n ∧ ¬ off z < o
      · rw [if_pos h2, if_pos (e2.mpr h2)]; omega
      · rw [if_neg h2, if_neg (fun q => h2 (e2.mp q)), Nat.add_zero, Nat.add_zero]
theorem cmo_congr {g g2 off : Nat → Int32} {o : Int32} : ∀ n, (∀ i, i < n → (g i = 0 ↔ g2 i = 0)) → cmo g off o n = cmo g2 off o n := by
  intro n
  induction n with
  | zero => intro _; rfl
  | succ n ih =>
    intro h
    unfold cmo
    rw [ih (fun i hi => h i (by omega))]
    have h1 := h n (by omega)
    by_cases h2 : g n = 0
    · rw [if_neg (fun q => q.1 h2), if_neg (fun q => q.1 (h1.mp h2))]
    · by_cases h3 : off n < o
      · rw [if_neg (fun q => q.2 h3), if_neg (fun q => q.2 h3)]
      · rw [if_pos ⟨h2, h3⟩, if_pos ⟨fun q => h2 (h1.mpr q), h3⟩]
theorem dR_0 (S : St) : dR S (fun _ => 0) S (fun j => j) := by
  refine ⟨Nat.le_refl _, fun j hj => ⟨hj, rfl⟩, fun i j h _ => h, fun i hi _ => ⟨i, hi, rfl⟩, fun j _ => ⟨rfl, rfl, rfl, rfl⟩, fun i _ => ?_, ?_, rfl, rfl, rfl, rfl, rfl, rfl, rfl, rfl, rfl, rfl⟩
  · rw [cmo_z, nI_0, Int32.add_zero]
  · rw [Nat.sub_self, nI_0, Int32.add_zero]
theorem dR.srt {S T : St} {g : Nat → Int32} {sg : Nat → Nat} (h : dR S g T sg) (hs : s_srt S) : s_srt T := by
  intro i j hij hj
  rw [(h.2.2.2.2.1 i (by omega)).1, (h.2.2.2.2.1 j hj).1]
  exact hs _ _ (h.2.2.1 i j hij hj) (h.2.1 j hj).1
theorem dR.step {S T : St} {g : Nat → Int32} {sg : Nat → Nat} (h : dR S g T sg) (hs : s_srt S) {z : Nat} (hz : z < s_n T) : dR S (upd g (sg z) 1) (S_drop T (g1 z)) (fun j => sg (if j < z then j else j + 1)) := by
  have hst := h.srt hs
  obtain ⟨a1, a2, a3, a4, a5, a6, a7, b1, b2, b3, b4, b5, b6, b7, b8, b9, b10⟩ := h
  have e9 : s_n (S_drop T (g1 z)) = s_n T - 1 := cpN_g1z hz
  have mono : ∀ i j, i < j → j < s_n T → sg i < sg j := a3
  have inj : ∀ i j, i < s_n T → j < s_n T → sg i = sg j → i = j := fun i j hi hj e => by
    by_cases q1 : i < j
    · have := mono i j q1 hj; omega
    · by_cases q2 : j < i
      · have := mono j i q2 hi; omega
      · omega
  have lt9 : ∀ j, j < s_n T - 1 → (if j < z then j else j + 1) < s_n T ∧ (if j < z then j else j + 1) ≠ z := fun j hj => by split <;> omega
  unfold dR oth
  rw [e9]
  refine ⟨by omega, fun j hj => ?_, fun i j hij hj => ?_, fun i hi hg => ?_, fun j hj => ?_, fun i hi => ?_, ?_, b1, b2, b3, b4, b5, b6, b7, b8, b9, b10⟩
  · obtain ⟨q1, q2⟩ := lt9 j hj
    refine ⟨(a2 _ q1).1, ?_⟩
    rw [upd, if_neg (fun e => q2 (inj _ _ q1 hz e))]
    exact (a2 _ q1).2
  · exact mono _ _ (by split <;> split <;> omega) (lt9 j hj).1
  · have hne : i ≠ sg z := fun e => by rw [e, upd_at] at hg; exact absurd hg (by decide)
    rw [upd, if_neg hne] at hg
    obtain ⟨j, hj, e⟩ := a4 i hi hg
    have hjz : j ≠ z := fun q => hne (by rw [← e, q])
    by_cases hlt : j < z
    · exact ⟨j, by omega, by show sg (if j < z then j else j + 1) = i; rw [if_pos hlt, e]⟩
    · exact ⟨j - 1, by omega, by show sg (if j - 1 < z then j - 1 else j - 1 + 1) = i; rw [if_neg (by omega), show j - 1 + 1 = j by omega, e]⟩
  · have q1 := (lt9 j hj).1
    have hj2 : j < cpN (g1 z) (s_n T) := by rw [cpN_g1z hz]; exact hj
    obtain ⟨c1, c2, c3, c4⟩ := a5 _ q1
    exact ⟨(cpF_g1 z _ _ j hj2).trans c1, (cpF_g1 z _ _ j hj2).trans c2, (cpF_g1 z _ _ j hj2).trans c3, (cpF_g1 z _ _ j hj2).trans c4⟩
  · rw [cmo_upd (a2 z hz).2, ← nI_add, ← Int32.add_assoc, ← a6 i hi]
    show s_md T (g1 z) i = _
    have hi2 : i < s_sh T := by rw [b6]; exact hi
    by_cases ho : s_off T z < s_at T i
    · rw [md_0 hst hz hi2 ho, if_neg (fun q => q.2 (by rw [← (a5 z hz).1, ← b8]; exact ho)), nI_0, Int32.add_zero]
    · rw [md_1 hst hz hi2 ho, if_pos ⟨(a2 z hz).1, by rw [← (a5 z hz).1, ← b8]; exact ho⟩]
      rfl
  · show s_dr T + nI (s_n T - cpN (g1 z) (s_n T)) = _
    rw [cpN_g1z hz, a7, Int32.add_assoc, nI_add]
    congr 2
    omega
/-- what a drop of all at once keeps -/
theorem dR_drop {S : St} (hs : s_srt S) (g : Nat → Int32) : ∃ sg, dR S g (S_drop S g) sg := by
  have key : ∀ n, ∃ sg : Nat → Nat, (∀ j, j < cpN g n → sg j < n ∧ g (sg j) = 0) ∧ (∀ i j, i < j → j < cpN g n → sg i < sg j) ∧ (∀ i, i < n → g i = 0 → ∃ j, j < cpN g n ∧ sg j = i) ∧ ∀ (f : Nat → Int32) (j : Nat), j < cpN g n → cpF g f n j = f (sg j) := by
    intro n
    induction n with
    | zero => exact ⟨fun j => j, fun j hj => absurd hj (Nat.not_lt_zero _), fun i j _ hj => absurd hj (Nat.not_lt_zero _), fun i hi => absurd hi (Nat.not_lt_zero _), fun f j hj => absurd hj (Nat.not_lt_zero _)⟩
    | succ n ih9 =>
      obtain ⟨sg, h1, h2, h4, h3⟩ := ih9
      by_cases hm : g n = 0
      · rw [cp_s1 hm]
        refine ⟨fun j => if j = cpN g n then n else sg j, fun j hj => ?_, fun i j hij hj => ?_, fun i hi hg => ?_, fun f j hj => ?_⟩
        · by_cases e9 : j = cpN g n
          · simp only [if_pos e9]
            exact ⟨by omega, hm⟩
          · have := h1 j (by omega)
            simp only [if_neg e9]
            exact ⟨by omega, this.2⟩
        · by_cases e9 : j = cpN g n
          · have := h1 i (by omega)
            simp only [if_pos e9, if_neg (show ¬ i = cpN g n by omega)]
            omega
          · simp only [if_neg e9, if_neg (show ¬ i = cpN g n by omega)]
            exact h2 i j hij (by omega)
        · by_cases e9 : i = n
          · exact ⟨cpN g n, by omega, by simp only [if_pos]; exact e9.symm⟩
          · obtain ⟨j, hj, e⟩ := h4 i (by omega) hg
            exact ⟨j, by omega, by simp only [if_neg (show ¬ j = cpN g n by omega)]; exact e⟩
        · rw [cf_s1 hm]
          by_cases e9 : j = cpN g n
          · simp only [upd, if_pos e9]
            exact cpF_ge g f n n (cpN_le g n) (Nat.le_refl _)
          · simp only [upd, if_neg e9]
            exact h3 f j (by omega)
      · rw [cp_s0 hm]
        refine ⟨sg, fun j hj => ?_, h2, fun i hi hg => ?_, fun f j hj => ?_⟩
        · have := h1 j hj
          exact ⟨by omega, this.2⟩
        · by_cases e9 : i = n
          · rw [e9] at hg; exact absurd hg hm
          · exact h4 i (by omega) hg
        · rw [cf_s0 hm]
          exact h3 f j (by omega)
  obtain ⟨sg, h1, h2, h4, h3⟩ := key (s_n S)
  refine ⟨sg, cpN_le g (s_n S), h1, h2, h4, fun j hj => ⟨h3 _ j hj, h3 _ j hj, h3 _ j hj, h3 _ j hj⟩, fun i hi => ?_, rfl, rfl, rfl, rfl, rfl, rfl, rfl, rfl, rfl, rfl, rfl⟩
  show s_md S g i = _
  unfold s_md
  rw [mkU_at hi, cmo_cm hs (s_n S) (Nat.le_refl _)]
/-- there is one such row of places only -/
theorem dR.uniq {S T U : St} {g g2 : Nat → Int32} {sg s2 : Nat → Nat} (h : dR S g T sg) (h2 : dR S g2 U s2) (hg : ∀ i, i < s_n S → (g i = 0 ↔ g2 i = 0)) : s_n T = s_n U ∧ ∀ j, j < s_n U → sg j = s2 j := by
  have half : ∀ {T U : St} {g g2 : Nat → Int32} {sg s2 : Nat → Nat}, dR S g T sg → dR S g2 U s2 → (∀ i, i < s_n S → (g i = 0 ↔ g2 i = 0)) → ∀ j, j < s_n T → j < s_n U ∧ sg j = s2 j := by
    intro T U g g2 sg s2 h h2 hg j
    induction j using Nat.strongRecOn with
    | _ j ih =>
      intro hj
      obtain ⟨q1, q2⟩ := h.2.1 j hj
      obtain ⟨k, hk, e⟩ := h2.2.2.2.1 (sg j) q1 ((hg _ q1).mp q2)
      by_cases c1 : k < j
      · have := (ih k c1 (by omega)).2
        have := h.2.2.1 k j c1 hj
        omega
      · by_cases c2 : j < k
        · have g3 := h2.2.2.1 j k c2 hk
          obtain ⟨r1, r2⟩ := h2.2.1 j (by omega)
          obtain ⟨k3, hk3, e3⟩ := h.2.2.2.1 (s2 j) r1 ((hg _ r1).mpr r2)
          by_cases c3 : k3 < j
          · have g4 := (ih k3 c3 hk3).2
            have g5 := h2.2.2.1 k3 j c3 (by omega)
            omega
          · by_cases c4 : j < k3
            · have g4 := h.2.2.1 j k3 c4 hk3
              omega
            · have : k3 = j := by omega
              subst this
              omega
        · have : k = j := by omega
          subst this
          exact ⟨hk, e.symm⟩
  have f1 := half h h2 hg
  have f2 := half h2 h (fun i hi => (hg i hi).symm)
  have n1 : s_n T ≤ s_n U := by
    by_cases q : s_n T ≤ s_n U
    · exact q
    · have := (f1 (s_n U) (by omega)).1; omega
  have n2 : s_n U ≤ s_n T := by
    by_cases q : s_n U ≤ s_n T
    · exact q
    · have := (f2 (s_n T) (by omega)).1; omega
  exact ⟨by omega, fun j hj => (f1 j (by omega)).2⟩
theorem dR.same {E : gE} {d : Dt} {S T U : St} {g g2 : Nat → Int32} {sg s2 : Nat → Nat} (h : dR S g T sg) (h2 : dR S g2 U s2) (hg : ∀ i, i < s_n S → (g i = 0 ↔ g2 i = 0)) (hR : Rep E d T) : Rep E d U ∧ ∀ (o : Nat) (F : va_W), sW E o d T F = sW E o d U F := by
  obtain ⟨e1, e2⟩ := h.uniq h2 hg
  obtain ⟨a1, a2, a3, a4, a5, a6, a7, b1, b2, b3, b4, b5, b6, b7, b8, b9, b10⟩ := h
  obtain ⟨c1, c2, c3, c4, c5, c6, c7, d1, d2, d3, d4, d5, d6, d7, d8, d9, d10⟩ := h2
  refine ⟨⟨fun i hi => ?_, fun i hi => ?_, fun i hi => ?_⟩, fun o F => ?_⟩
  · obtain ⟨q, f, k1, k2, k3, k4, k5, k6⟩ := hR.1 i (by omega)
    obtain ⟨m1, m2, m3, m4⟩ := a5 i (by omega)
    obtain ⟨n1, n2, n3, n4⟩ := c5 i hi
    have e := e2 i hi
    exact ⟨q, f, k1, k2, by rw [k3, m1, n1, e], by rw [k4, m2, n2, e], by rw [k5, m3, n3, e], by rw [k6, m4, n4, e]⟩
  · rw [d5, ← b5]
    exact hR.2.1 i (by rw [b3, ← d3]; exact hi)
  · obtain ⟨k1, k2, k3, k4, k5, k6⟩ := hR.2.2 i (by rw [b6, ← d6]; exact hi)
    refine ⟨k1, by rw [k2, b7, d7], by rw [k3, b8, d8], by rw [k4, b9, d9], ?_, fun c hc => by rw [k6 c hc, b10, d10]⟩
    rw [k5, a6 i (by rw [← d6]; exact hi), c6 i (by rw [← d6]; exact hi), cmo_congr (s_n S) hg]
  · unfold sW
    rw [b1, b2, b3, b4, b6, a7, e1, d1, d2, d3, d4, d6, c7]
/-- nothing ahead of t is dropped: those stand where they stood -/
theorem dR.low {S T : St} {g : Nat → Int32} {sg : Nat → Nat} (h : dR S g T sg) {t : Nat} (ht : t ≤ s_n S) (hg : ∀ i, i < t → g i = 0) : t ≤ s_n T ∧ ∀ j, j < t → sg j = j := by
  have key : ∀ j, j < t → j < s_n T ∧ sg j = j := by
    intro j
    induction j using Nat.strongRecOn with
    | _ j ih =>
      intro hj
      obtain ⟨k, hk, e⟩ := h.2.2.2.1 j (by omega) (hg j hj)
      by_cases c1 : k < j
      · have := (ih k c1 (by omega)).2; omega
      · by_cases c2 : j < k
        · have q := h.2.2.1 j k c2 hk
          have c3 : sg j < j := by omega
          have q2 := (ih (sg j) c3 (by omega)).2
          have q3 := h.2.2.1 (sg j) j c3 (by omega)
          omega
        · have : k = j := by omega
          subst this
          exact ⟨hk, e⟩
  refine ⟨?_, fun j hj => (key j hj).2⟩
  by_cases q : t = 0
  · omega
  · have := (key (t - 1) (by omega)).1; omega
