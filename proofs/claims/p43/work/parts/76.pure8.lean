-- WHAT THE LAW ASKS HOLDS OF EVERY LOG
theorem nx_sum {S : St} {z : Nat} (h : xI S) (hn : s_n S ≤ 48) (e : s_nx S = nI z) (hz : z < 2147480000) : nI (s_n S) + s_dr S = nI z ∧ s_n S ≤ z ∧ s_dr S = nI (z - s_n S) := by
  obtain ⟨⟨a1, a2⟩, -⟩ := h
  obtain ⟨w, hw, ew⟩ := nI_of (x := s_dr S) (by rw [Int32.lt_iff_toInt_lt, show (0 : Int32).toInt = 0 from rfl]; omega)
  rw [ew, e, nI_toInt hw, nI_toInt (by omega)] at a2
  have e2 : w = z - s_n S := by omega
  exact ⟨by rw [ew, nI_add, show s_n S + w = z by omega], by omega, by rw [ew, e2]⟩
theorem off_le {S : St} {B : Int} (h : lgI S B) : ∀ k i, i + k + 1 = s_n S → (s_off S i).toInt + ((k + 1 : Nat) : Int) ≤ (s_nx S).toInt := by
  intro k
  induction k with
  | zero => intro i hi; have := (h.2.2.2.1 i (by omega)).2; omega
  | succ k ih =>
    intro i hi
    have h1 := ih (i + 1) (by omega)
    have h2 := h.2.2.1 i (i + 1) (by omega) (by omega)
    omega
theorem first_of {S : St} (h : ¬ s_n S = 0) : s_first S = s_off S 0 := if_neg h
theorem first_neg {S : St} {B : Int} (h : lgI S B) : s_first S < 0 ↔ s_n S = 0 := by
  by_cases q : s_n S = 0
  · unfold s_first
    rw [if_pos q]
    exact ⟨fun _ => q, fun _ => by decide⟩
  · rw [first_of q]
    have := (h.2.2.2.1 0 (by omega)).1
    rw [Int32.lt_iff_toInt_lt, show (0 : Int32).toInt = 0 from rfl]
    omega
theorem first_dr {S : St} {B : Int} (h : lgI S B) (hx : xI S) (q : ¬ s_n S = 0) : ¬ s_dr S < s_first S := by
  rw [first_of q, Int32.lt_iff_toInt_lt]
  have := off_le h (s_n S - 1) 0 (by omega)
  have := hx.1.2
  omega
theorem first_nx {S : St} {B : Int} (h : lgI S B) (q : ¬ s_n S = 0) : s_first S < s_nx S := by
  rw [first_of q, Int32.lt_iff_toInt_lt]
  exact (h.2.2.2.1 0 (by omega)).2
theorem first_le {S : St} {B : Int} (h : lgI S B) {i : Nat} (hi : i < s_n S) : ¬ s_off S i < s_first S := by
  rw [first_of (by omega), Int32.lt_iff_toInt_lt]
  by_cases e : i = 0
  · rw [e]; omega
  · have := h.2.2.1 0 i (by omega) hi; omega
theorem po_some {S : St} {x : Int32} {i : Nat} (h : s_po S x = some i) : i = pf (s_off S) x (s_n S) ∧ i < s_n S ∧ s_off S i = x := by
  unfold s_po at h
  split at h
  · rename_i hc; cases h; exact ⟨rfl, hc.1, hc.2⟩
  · cases h
theorem po_none {S : St} {x : Int32} (h : ∀ i, i < s_n S → ¬ s_off S i = x) : s_po S x = none := s_po_0 (fun q => h _ q.1 q.2)
theorem kp_none {S : St} {x : Int32} (h : s_po S x = none) : (if s_po S x = none then (0 : Int32) else 1) = 0 := if_pos h
theorem kp_m1 {S : St} {B : Int} (h : lgI S B) : (if s_po S (-1) = none then (0 : Int32) else 1) = 0 := kp_none (po_none (fun i hi e => by
  have := (h.2.2.2.1 i hi).1
  rw [e, show (-1 : Int32).toInt = -1 from rfl] at this
  omega))
theorem kp_nx {S : St} {B : Int} (h : lgI S B) : (if s_po S (s_nx S) = none then (0 : Int32) else 1) = 0 := kp_none (po_none (fun i hi e => by
  have := (h.2.2.2.1 i hi).2
  rw [e] at this
  omega))
theorem s_ka_some {S : St} {x : Int32} {i : Nat} (h : s_po S x = some i) (f : Nat → Int32) : s_ka S f x = f i := by unfold s_ka; rw [h]
theorem cnt_pos {f : Nat → Int32} {x : Int32} {i n : Nat} (hi : i < n) (h : f i = x) : 0 < cnt f x n := by
  have h1 := cnt_mono f x (i := i + 1) n (by omega)
  rw [cnt_s1 h] at h1
  omega
theorem lo_cases (S : St) (k : Int32) : (s_lo S k = -1 ∧ s_wv S k = 0 ∧ cnt (s_key S) k (s_n S) = 0) ∨ ∃ i, i < s_n S ∧ s_lo S k = s_off S i ∧ s_wv S k = s_val S i ∧ s_key S i = k ∧ 0 < cnt (s_key S) k (s_n S) ∧ ∀ j, i < j → j < s_n S → ¬ s_key S j = k := by
  cases h : lpO (s_key S) k 0 (s_n S) with
  | none => exact Or.inl ⟨by unfold s_lo; rw [h], by unfold s_wv; rw [h], cnt_none _ (fun i hi => lpO_none h i (Nat.zero_le _) hi)⟩
  | some i =>
    obtain ⟨h1, h2, h3⟩ := lpO_some h
    exact Or.inr ⟨i, h2, by unfold s_lo; rw [h], by unfold s_wv; rw [h], h3, cnt_pos h2 h3, fun j => lpO_last h j⟩
theorem lo_pos {S : St} {k : Int32} (h : ¬ s_lo S k < 0) : ∃ i, i < s_n S ∧ s_lo S k = s_off S i ∧ s_wv S k = s_val S i ∧ s_key S i = k ∧ 0 < cnt (s_key S) k (s_n S) := by
  rcases lo_cases S k with q | ⟨i, q1, q2, q3, q4, q5, -⟩
  · rw [q.1] at h; exact absurd (by decide) h
  · exact ⟨i, q1, q2, q3, q4, q5⟩
theorem lo_zero {S : St} {B : Int} (hl : lgI S B) {k : Int32} (h : s_lo S k < 0) : s_wv S k = 0 ∧ cnt (s_key S) k (s_n S) = 0 := by
  rcases lo_cases S k with q | ⟨i, q1, q2, -⟩
  · exact q.2
  · have := (hl.2.2.2.1 i q1).1
    rw [q2, Int32.lt_iff_toInt_lt, show (0 : Int32).toInt = 0 from rfl] at h
    omega
theorem lo_ge {S : St} {B : Int} (hl : lgI S B) {i : Nat} (hi : i < s_n S) : ¬ s_lo S (s_key S i) < s_off S i := by
  rcases lo_cases S (s_key S i) with q | ⟨j, q1, q2, q3, q4, q5, q6⟩
  · have := cnt_pos (f := s_key S) hi rfl
    omega
  · rw [q2, Int32.lt_iff_toInt_lt]
    by_cases e : j < i
    · exact absurd rfl (q6 i e hi)
    · by_cases e2 : i = j
      · rw [e2]; omega
      · have := hl.2.2.1 i j (by omega) q1; omega
theorem sumN_add (f g : Nat → Nat) : ∀ k, sumN (fun i => f i + g i) k = sumN f k + sumN g k := by
  intro k
  induction k with
  | zero => rfl
  | succ k ih => unfold sumN; rw [ih]; omega
theorem sumN_one (z : Nat) : ∀ k, sumN (fun c => if c = z then 1 else 0) k = if z < k then 1 else 0 := by
  intro k
  induction k with
  | zero => rfl
  | succ k ih =>
    unfold sumN
    rw [ih]
    by_cases h : k = z
    · rw [if_pos h, if_neg (by omega), if_pos (by omega)]
    · rw [if_neg h]
      by_cases h2 : z < k
      · rw [if_pos h2, if_pos (by omega)]
      · rw [if_neg h2, if_neg (by omega)]
theorem sum_cnt {f : Nat → Int32} : ∀ n, (∀ i, i < n → ky9 (f i)) → sumN (fun c => cnt f (nI c) n) 10 = n := by
  intro n
  induction n with
  | zero => intro _; rfl
  | succ n ih =>
    intro h
    obtain ⟨h1, h2⟩ := h n (by omega)
    have e : sumN (fun c => cnt f (nI c) (n + 1)) 10 = sumN (fun c => cnt f (nI c) n + (if c = (f n).toNatClampNeg then 1 else 0)) 10 := sumN_congr 10 (fun c hc => by
      show cnt f (nI c) n + (if f n = nI c then 1 else 0) = _
      congr 1
      by_cases q : c = (f n).toNatClampNeg
      · rw [if_pos q, if_pos (by rw [q]; exact h2)]
      · rw [if_neg q, if_neg (fun z => q ((nI_eq (by omega) (by omega)).mp (z.symm.trans h2)))])
    rw [e, sumN_add, ih (fun i hi => h i (by omega)), sumN_one, if_pos h1]
theorem pf_is {off : Nat → Int32} {o : Int32} {n p : Nat} (hp : p ≤ n) (h1 : ∀ i, i < p → off i < o) (h2 : p < n → ¬ off p < o) : pf off o n = p := by
  have h3 := pf_le off o n
  by_cases c1 : pf off o n < p
  · exact absurd (h1 _ c1) (pf_stop (by omega))
  · by_cases c2 : p < pf off o n
    · exact absurd (pf_lt c2) (h2 (by omega))
    · omega
theorem pf_zero {S : St} {B : Int} (h : lgI S B) : pf (s_off S) (nI 0) (s_n S) = 0 := pf_is (Nat.zero_le _) (fun i hi => absurd hi (Nat.not_lt_zero _)) (fun h0 => by
  have := (h.2.2.2.1 0 h0).1
  rw [Int32.lt_iff_toInt_lt, nI_toInt (by omega)]
  omega)
theorem pf_skip {S : St} {B : Int} (h : lgI S B) {o : Nat} (ho : o < 2147480000) (hp : s_po S (nI o) = none) : pf (s_off S) (nI (o + 1)) (s_n S) = pf (s_off S) (nI o) (s_n S) := by
  refine pf_is (pf_le _ _ _) (fun i hi => ?_) (fun h0 => ?_)
  · have h1 := pf_lt hi
    rw [Int32.lt_iff_toInt_lt, nI_toInt (by omega)] at h1 ⊢
    omega
  · have h1 := pf_stop h0
    have h2 : ¬ s_off S (pf (s_off S) (nI o) (s_n S)) = nI o := fun e => by rw [s_po_1 h0 e] at hp; cases hp
    rw [Int32.lt_iff_toInt_lt, nI_toInt (by omega)] at h1 ⊢
    have h3 : ¬ (s_off S (pf (s_off S) (nI o) (s_n S))).toInt = (o : Int) := fun e => h2 (Int32.toInt_inj.mp (by rw [e, nI_toInt (by omega)]))
    omega
theorem pf_hit {S : St} {B : Int} (h : lgI S B) {o i : Nat} (ho : o < 2147480000) (hp : s_po S (nI o) = some i) : pf (s_off S) (nI (o + 1)) (s_n S) = pf (s_off S) (nI o) (s_n S) + 1 := by
  obtain ⟨e1, e2, e3⟩ := po_some hp
  rw [← e1]
  have e4 : (s_off S i).toInt = (o : Int) := by rw [e3, nI_toInt (by omega)]
  refine pf_is (by omega) (fun j hj => ?_) (fun h0 => ?_)
  · rw [Int32.lt_iff_toInt_lt, nI_toInt (by omega)]
    by_cases q : j = i
    · rw [q]; omega
    · have := h.2.2.1 j i (by omega) e2; omega
  · rw [Int32.lt_iff_toInt_lt, nI_toInt (by omega)]
    have := h.2.2.1 i (i + 1) (by omega) h0
    omega
theorem pf_end {S : St} {B : Int} (h : lgI S B) {z : Nat} (e : s_nx S = nI z) : pf (s_off S) (nI z) (s_n S) = s_n S := pf_is (Nat.le_refl _) (fun i hi => by rw [← e, Int32.lt_iff_toInt_lt]; exact (h.2.2.2.1 i hi).2) (fun h0 => absurd h0 (Nat.lt_irrefl _))
theorem cm0_cpN (g : Nat → Int32) : ∀ n, cm g 0 n + cpN g n = n := by
  intro n
  induction n with
  | zero => rfl
  | succ n ih =>
    by_cases h : g n = 0
    · rw [cm_s0 h, cp_s1 h]; omega
    · rw [cm_s1 (Nat.zero_le _) h, cp_s0 h]; omega
theorem wc_le (S : St) : s_wc S ≤ s_n S := cm_le _ _ _
/-- of each key one is kept at the most -/
theorem cp_sum {g f : Nat → Int32} : ∀ n, (∀ i, i < n → ky9 (f i)) → sumN (fun c => cnt (fun i => if g i = 0 then f i else -1) (nI c) n) 10 = cpN g n := by
  intro n
  induction n with
  | zero => intro _; rfl
  | succ n ih =>
    intro h
    have ihn := ih (fun i hi => h i (by omega))
    by_cases hg : g n = 0
    · obtain ⟨h1, h2⟩ := h n (by omega)
      have e : sumN (fun c => cnt (fun i => if g i = 0 then f i else -1) (nI c) (n + 1)) 10 = sumN (fun c => cnt (fun i => if g i = 0 then f i else -1) (nI c) n + (if c = (f n).toNatClampNeg then 1 else 0)) 10 := sumN_congr 10 (fun c hc => by
        show cnt _ (nI c) n + (if (if g n = 0 then f n else -1) = nI c then 1 else 0) = _
        rw [if_pos hg]
        congr 1
        by_cases q : c = (f n).toNatClampNeg
        · rw [if_pos q, if_pos (by rw [q]; exact h2)]
        · rw [if_neg q, if_neg (fun z => q ((nI_eq (by omega) (by omega)).mp (z.symm.trans h2)))])
      rw [e, sumN_add, ihn, sumN_one, if_pos h1, cp_s1 hg]
    · have e : sumN (fun c => cnt (fun i => if g i = 0 then f i else -1) (nI c) (n + 1)) 10 = sumN (fun c => cnt (fun i => if g i = 0 then f i else -1) (nI c) n) 10 := sumN_congr 10 (fun c hc => by
        show cnt _ (nI c) n + (if (if g n = 0 then f n else -1) = nI c then 1 else 0) = _
        rw [if_neg hg, if_neg (m1_nI (by omega))]
        rfl)
      rw [e, ihn, cp_s0 hg]
theorem sumN_le1 {f : Nat → Nat} : ∀ k, (∀ i, i < k → f i ≤ 1) → sumN f k ≤ k := by
  intro k
  induction k with
  | zero => intro _; exact Nat.le_refl _
  | succ k ih => intro h; unfold sumN; have := ih (fun i hi => h i (by omega)); have := h k (by omega); omega
theorem one_each {S : St} {c : Nat} (hc : c < 10) : ∀ n, n ≤ s_n S → cnt (fun i => if s_cm S i = 0 then s_key S i else -1) (nI c) n ≤ 1 ∧ (1 ≤ cnt (fun i => if s_cm S i = 0 then s_key S i else -1) (nI c) n → ∃ i, i < n ∧ s_cm S i = 0 ∧ s_key S i = nI c) := by
  intro n
  induction n with
  | zero => intro _; exact ⟨Nat.zero_le _, fun h => absurd h (by show ¬ 1 ≤ 0; omega)⟩
  | succ n ih =>
    intro hn
    obtain ⟨h1, h2⟩ := ih (by omega)
    have e : cnt (fun i => if s_cm S i = 0 then s_key S i else -1) (nI c) (n + 1) = cnt (fun i => if s_cm S i = 0 then s_key S i else -1) (nI c) n + (if (if s_cm S n = 0 then s_key S n else -1) = nI c then 1 else 0) := rfl
    by_cases hg : s_cm S n = 0 ∧ s_key S n = nI c
    · have hz : ¬ 1 ≤ cnt (fun i => if s_cm S i = 0 then s_key S i else -1) (nI c) n := fun q => by
        obtain ⟨i, g1, g2, g3⟩ := h2 q
        have g4 : lpO (s_key S) (s_key S i) (i + 1) (s_n S) = none := ((s_cm_iff S i).mp g2).1
        exact lpO_none g4 n (by omega) (by omega) (hg.2.trans g3.symm)
      rw [e, if_pos hg.1, if_pos hg.2]
      exact ⟨by omega, fun _ => ⟨n, by omega, hg⟩⟩
    · have hne : ¬ (if s_cm S n = 0 then s_key S n else -1) = nI c := fun q => by
        by_cases q2 : s_cm S n = 0
        · rw [if_pos q2] at q; exact hg ⟨q2, q⟩
        · rw [if_neg q2] at q; exact m1_nI (by omega) q
      rw [e, if_neg hne, Nat.add_zero]
      refine ⟨h1, fun q => ?_⟩
      obtain ⟨i, g1, g2⟩ := h2 q
      exact ⟨i, by omega, g2⟩
theorem wc_ge {S : St} (hk : ∀ i, i < s_n S → ky9 (s_key S i)) : s_n S ≤ s_wc S + 10 := by
  have h1 := cm0_cpN (s_cm S) (s_n S)
  have h2 := cp_sum (g := s_cm S) (f := s_key S) (s_n S) hk
  have h3 := sumN_le1 (f := fun c => cnt (fun i => if s_cm S i = 0 then s_key S i else -1) (nI c) (s_n S)) 10 (fun c hc => (one_each hc (s_n S) (Nat.le_refl _)).1)
  unfold s_wc
  omega
theorem wc_k {S : St} (hn : s_n S ≤ 48) (hk : ∀ i, i < s_n S → ky9 (s_key S i)) : ¬ nI (s_wc S) < nI (s_n S) - nI 10 := by
  have h1 := wc_ge hk
  have h2 := wc_le S
  have e : (nI (s_n S) - nI 10).toInt = (s_n S : Int) - 10 := pk_sub_toInt (by omega) (by omega)
  rw [Int32.lt_iff_toInt_lt, e, nI_toInt (by omega)]
  omega
theorem lag_room {S : St} {B : Int} (h : lgI S B) {i : Nat} (ha : (s_at S i).toInt ≤ (s_nx S).toInt) : (s_at S i).toInt + (s_lag S i : Int) ≤ (s_nx S).toInt := by
  unfold s_lag
  have h1 := pf_le (s_off S) (s_at S i) (s_n S)
  by_cases c : pf (s_off S) (s_at S i) (s_n S) < s_n S
  · have h2 := pf_stop c
    have h3 := off_le h (s_n S - pf (s_off S) (s_at S i) (s_n S) - 1) (pf (s_off S) (s_at S i) (s_n S)) (by omega)
    rw [Int32.lt_iff_toInt_lt] at h2
    omega
  · omega
theorem lag_k {S : St} {B : Int} {z i : Nat} (h : lgI S B) (e : s_nx S = nI z) (hz : z < 2147480000) (h0 : 0 ≤ (s_at S i).toInt) (ha : (s_at S i).toInt ≤ (s_nx S).toInt) (hn : s_n S ≤ 48) : ¬ nI z - s_at S i < nI (s_lag S i) := by
  have h1 := lag_room h ha
  have h2 := s_lag_le S i
  rw [e, nI_toInt (by omega)] at h1 ha
  have e1 : (nI z - s_at S i).toInt = (z : Int) - (s_at S i).toInt := by
    rw [Int32.toInt_sub, nI_toInt (by omega)]
    exact Int.bmod_eq_of_le (by omega) (by omega)
  rw [Int32.lt_iff_toInt_lt, e1, nI_toInt (by omega)]
  omega
theorem fb_max {S : St} : ∀ k b, s_fb S k = some b → ∀ i, i < k → s_lag S i ≤ s_lag S b := by
  intro k
  induction k with
  | zero => intro b _ i hi; exact absurd hi (Nat.not_lt_zero _)
  | succ k ih =>
    intro b hb i hi
    cases hk : s_fb S k with
    | none =>
      rw [fb_none hk] at hb
      cases hb
      have : k = 0 := by
        cases k with
        | zero => rfl
        | succ k =>
          exfalso
          cases hk2 : s_fb S k with
          | none => rw [fb_none hk2] at hk; cases hk
          | some b2 =>
            by_cases q : s_lag S b2 < s_lag S k
            · rw [fb_1 hk2 q] at hk; cases hk
            · rw [fb_0 hk2 q, hk2] at hk; cases hk
      have : i = k := by omega
      rw [this]
      exact Nat.le_refl _
    | some b2 =>
      by_cases q : s_lag S b2 < s_lag S k
      · rw [fb_1 hk q] at hb
        cases hb
        by_cases e : i = k
        · rw [e]; exact Nat.le_refl _
        · have := ih b2 hk i (by omega); omega
      · rw [fb_0 hk q, hk] at hb
        cases hb
        by_cases e : i = k
        · rw [e]; omega
        · exact ih b hk i (by omega)
theorem fb_ex {S : St} {k : Nat} (h : 0 < k) : ∃ b, s_fb S k = some b ∧ b < k := by
  obtain ⟨j, rfl⟩ : ∃ j, k = j + 1 := ⟨k - 1, by omega⟩
  cases hk : s_fb S j with
  | none => exact ⟨j, fb_none hk, by omega⟩
  | some b =>
    by_cases q : s_lag S b < s_lag S j
    · exact ⟨j, fb_1 hk q, by omega⟩
    · have := fb_m hk
      exact ⟨b, by rw [fb_0 hk q, hk], by omega⟩
theorem cm_from (g : Nat → Int32) (fr : Nat) : ∀ n, cm g fr n ≤ n - fr ∧ cm g fr n ≤ cm g 0 n := by
  intro n
  induction n with
  | zero => exact ⟨Nat.zero_le _, Nat.le_refl _⟩
  | succ n ih =>
    by_cases h : g n = 0
    · rw [cm_s0 h, cm_s0 h]; omega
    · rw [cm_s1 (fr := 0) (Nat.zero_le _) h]
      by_cases hf : fr ≤ n
      · rw [cm_s1 hf h]; omega
      · have e : cm g fr (n + 1) = cm g fr n := by
          show cm g fr n + _ = _
          rw [if_neg (fun q => hf q.1)]; rfl
        rw [e]; omega
theorem wm_le (S : St) (i : Nat) : s_wm S i ≤ s_lag S i ∧ s_wm S i ≤ s_wc S := cm_from _ _ _
-- AN HOUR
theorem dh_5 {S : St} {i : Nat} (hp : pN S i ≤ 5) : s_dh S 1 i ≤ 5 ∧ s_dh S 1 i ≤ s_lag S i := by
  rw [s_dh_eq]
  unfold mhN s_lag
  split <;> omega
theorem pass_pt {S : St} {i : Nat} (hi : i < s_sh S) : s_hd (S_pass S (nI 1)) i = s_hd S i + nI (s_dh S 1 i) ∧ s_ms (S_pass S (nI 1)) i = s_ms S i ∧ s_at (S_pass S (nI 1)) i = atv S i (s_dh S 1 i) := by
  obtain ⟨p1, p2, p3, p4⟩ := S_ps_pt S 1 (s_sh S)
  obtain ⟨m1, m2, m3, m4⟩ := S_ps_keep3 S 1 (s_sh S)
  show s_hd (S_ps S 1 (s_sh S)) i = _ ∧ s_ms (S_ps S 1 (s_sh S)) i = _ ∧ s_at (S_ps S 1 (s_sh S)) i = _
  rw [p1, p2, m4, if_pos hi, if_pos hi]
  exact ⟨rfl, rfl, rfl⟩
theorem pass_kp (S : St) : s_n (S_pass S (nI 1)) = s_n S ∧ s_off (S_pass S (nI 1)) = s_off S ∧ s_nx (S_pass S (nI 1)) = s_nx S ∧ s_dr (S_pass S (nI 1)) = s_dr S ∧ s_on (S_pass S (nI 1)) = s_on S ∧ s_sc (S_pass S (nI 1)) = s_sc S ∧ s_sh (S_pass S (nI 1)) = s_sh S ∧ s_hr (S_pass S (nI 1)) = s_hr S + 1 := by
  obtain ⟨k1, k2, k3, k4, k5, k6, k7⟩ := S_ps_keep S 1 (s_sh S)
  obtain ⟨k8, k9⟩ := S_ps_keep2 S 1 (s_sh S)
  obtain ⟨m1, m2, m3, m4⟩ := S_ps_keep3 S 1 (s_sh S)
  exact ⟨k3, k1, k8, m1, k6, k9, k4, rfl⟩
theorem pass_lag {S : St} {B : Int} (hl : lgI S B) (hB : B < 2147483647) {i : Nat} (hi : i < s_sh S) : s_lag (S_pass S (nI 1)) i = s_lag S i - s_dh S 1 i := by
  obtain ⟨q1, q2, -⟩ := pass_kp S
  have h1 := s_dh_n S 1 i
  have hx : ∀ i, i < s_n S → 0 ≤ (s_off S i).toInt ∧ (s_off S i).toInt < 2147483647 := fun i hi => by
    have := hl.2.2.2.1 i hi
    have := hl.2.2.2.2.2
    omega
  unfold s_lag
  rw [q1, q2, (pass_pt hi).2.2]
  have e : pf (s_off S) (atv S i (s_dh S 1 i)) (s_n S) = pf (s_off S) (s_at S i) (s_n S) + s_dh S 1 i := by
    refine pf_is h1 (fun k hk => ?_) (fun h0 => ?_)
    · exact (atv_lt hl.srt hx h1 (by omega)).mpr hk
    · rw [atv_lt hl.srt hx h1 h0]
      omega
  rw [e]
  omega
-- A PHRASE
theorem spk_n {S : St} (hn : s_n S ≤ 48) (k v : Int32) : ∃ m, m < 48 ∧ s_n (S_spk S k v) = m + 1 ∧ m + 1 = min 48 (s_n S + 1) ∧ s_off (S_spk S k v) m = s_nx S ∧ s_key (S_spk S k v) m = k ∧ s_val (S_spk S k v) m = v ∧ s_sto (S_spk S k v) m = s_tag S := by
  have hm : s_n (S_cntd (S_room S)) = s_n (S_room S) := S_cntd_n _
  have hr := S_room_n hn
  have hx : s_nx (S_cntd (S_room S)) = s_nx S := by
    unfold S_cntd
    split <;> exact (s_tag_room S).2.2.2
  refine ⟨s_n (S_cntd (S_room S)), by omega, rfl, ?_, ?_, upd_at _ _ _, upd_at _ _ _, upd_at _ _ _⟩
  · rw [hm]
    unfold S_room
    by_cases h : s_n S < 48
    · rw [if_pos h]; omega
    · rw [if_neg h]
      have e : s_n (S_drop S gFirst) = s_n S - 1 := cpN_g1z (n := s_n S) (z := 0) (by omega)
      rw [e]; omega
  · show upd (s_off (S_cntd (S_room S))) (s_n (S_cntd (S_room S))) (s_nx (S_cntd (S_room S))) _ = _
    rw [upd_at, hx]
theorem spk_lo {S : St} (hn : s_n S ≤ 48) (k v : Int32) : s_lo (S_spk S k v) k = s_nx S ∧ s_wv (S_spk S k v) k = v := by
  obtain ⟨m, h1, h2, h3, h4, h5, h6, h7⟩ := spk_n hn k v
  have e : lpO (s_key (S_spk S k v)) k 0 (s_n (S_spk S k v)) = some m := by
    rw [h2]
    unfold lpO
    rw [if_pos (Nat.zero_le _), if_pos h5]
  unfold s_lo s_wv
  rw [e]
  exact ⟨h4, h6⟩
theorem spk_po {S : St} (hn : s_n S ≤ 48) {k v : Int32} (hs : s_srt (S_spk S k v)) : s_po (S_spk S k v) (s_nx S) ≠ none ∧ s_ka (S_spk S k v) (s_sto (S_spk S k v)) (s_nx S) = s_tag S := by
  obtain ⟨m, h1, h2, h3, h4, h5, h6, h7⟩ := spk_n hn k v
  have e := s_po_at hs (show m < s_n (S_spk S k v) by omega)
  rw [h4] at e
  refine ⟨by rw [e]; exact Option.some_ne_none m, ?_⟩
  rw [s_ka_some e, h7]
