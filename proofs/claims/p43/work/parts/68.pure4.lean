-- HOURS, AS THE LAW PASSES THEM: one by one
def sumN (f : Nat → Nat) : Nat → Nat
  | 0 => 0
  | k + 1 => sumN f k + f k
theorem sumN_congr {f g : Nat → Nat} : ∀ k, (∀ i, i < k → f i = g i) → sumN f k = sumN g k := by
  intro k
  induction k with
  | zero => intro _; rfl
  | succ k ih => intro h; unfold sumN; rw [ih (fun i hi => h i (by omega)), h k (by omega)]
def dup1 (dd : Nat → Nat) (z : Nat) : Nat → Nat := fun i => if i = z then dd i + 1 else dd i
theorem dup1_z (dd : Nat → Nat) (z : Nat) : dup1 dd z z = dd z + 1 := if_pos rfl
theorem dup1_n {dd : Nat → Nat} {z i : Nat} (h : ¬ i = z) : dup1 dd z i = dd i := if_neg h
theorem sumN_dup1 {dd : Nat → Nat} {z : Nat} : ∀ k, sumN (dup1 dd z) k = sumN dd k + (if z < k then 1 else 0) := by
  intro k
  induction k with
  | zero => rfl
  | succ k ih =>
    unfold sumN
    rw [ih]
    by_cases h : k = z
    · rw [h, dup1_z, if_neg (Nat.lt_irrefl z), if_pos (Nat.lt_succ_self z)]
      omega
    · rw [dup1_n h]
      by_cases h2 : z < k
      · rw [if_pos h2, if_pos (by omega)]; omega
      · rw [if_neg h2, if_neg (by omega)]; omega
/-- where a ship stands behind d phrases more -/
def atv (S : St) (i d : Nat) : Int32 := if d = 0 then s_at S i else s_off S (pf (s_off S) (s_at S i) (s_n S) + d - 1) + 1
def hRow (S : St) (i d : Nat) (r : Nat → Int32) : Prop := r 0 = s_pc S i ∧ r 1 = atv S i d ∧ r 2 = s_hd S i + nI d ∧ r 3 = s_ms S i ∧ ∀ c, c < 10 → r (4 + c) = hk (s_key S) (s_val S) (pf (s_off S) (s_at S i) (s_n S)) (s_kn S i) d c
theorem s_dh_eq (S : St) (h i : Nat) : s_dh S h i = min (s_n S - pf (s_off S) (s_at S i) (s_n S)) (mhN S h (pN S i)) := by
  have := pf_le (s_off S) (s_at S i) (s_n S)
  unfold s_dh s_to
  omega
theorem s_dh_on {S : St} (h : Nat) (i : Nat) (hon : ¬ s_on S = 0) : s_dh S h i = 0 := by
  rw [s_dh_eq]
  unfold mhN
  rw [if_neg hon]
  omega
theorem s_dh_0 (S : St) (i : Nat) : s_dh S 0 i = 0 := by
  rw [s_dh_eq]
  unfold mhN
  split <;> omega
theorem s_dh_s {S : St} (h i : Nat) (hon : s_on S = 0) : s_dh S h i + min (pN S i) (s_n S - (pf (s_off S) (s_at S i) (s_n S) + s_dh S h i)) = s_dh S (h + 1) i := by
  rw [s_dh_eq, s_dh_eq]
  unfold mhN
  rw [if_pos hon, if_pos hon, Nat.succ_mul]
  omega
theorem s_dh_n (S : St) (h i : Nat) : pf (s_off S) (s_at S i) (s_n S) + s_dh S h i ≤ s_n S := by
  have := pf_le (s_off S) (s_at S i) (s_n S)
  rw [s_dh_eq]
  omega
theorem atv_lt {S : St} (hs : s_srt S) (hx : ∀ i, i < s_n S → 0 ≤ (s_off S i).toInt ∧ (s_off S i).toInt < 2147483647) {i d k : Nat} (hd : pf (s_off S) (s_at S i) (s_n S) + d ≤ s_n S) (hk : k < s_n S) : s_off S k < atv S i d ↔ k < pf (s_off S) (s_at S i) (s_n S) + d := by
  unfold atv
  by_cases h0 : d = 0
  · rw [if_pos h0, h0, Nat.add_zero]
    have h1 := pf_iff hs (o := s_at S i) hk
    constructor
    · intro h
      by_cases q : pf (s_off S) (s_at S i) (s_n S) ≤ k
      · exact absurd h (h1.mp q)
      · omega
    · intro h
      exact Classical.byContradiction (fun q => by have := h1.mpr q; omega)
  · rw [if_neg h0]
    obtain ⟨z, hz⟩ : ∃ z, z = pf (s_off S) (s_at S i) (s_n S) + d - 1 := ⟨_, rfl⟩
    rw [← hz]
    have hzn : z < s_n S := by omega
    have e1 := nx_s9 (hx z hzn).1 (hx z hzn).2
    rw [Int32.lt_iff_toInt_lt, e1]
    constructor
    · intro h
      by_cases q : z < k
      · have := Int32.lt_iff_toInt_lt.mp (hs z k q hk); omega
      · omega
    · intro h
      by_cases q : k = z
      · rw [q]; omega
      · have := Int32.lt_iff_toInt_lt.mp (hs k z (by omega) hzn); omega
theorem hRow_s {S : St} {i d k : Nat} {r : Nat → Int32} {v : Int32} (h : hRow S i d r) (hk9 : k = pf (s_off S) (s_at S i) (s_n S) + d) (hv : v = s_hd S i + nI d) (hkk : (s_key S k).toNatClampNeg < 10) : hRow S i (d + 1) (upd (upd (upd r (4 + (s_key S k).toNatClampNeg) (s_val S k)) 1 (s_off S k + 1)) 2 (v + 1)) := by
  obtain ⟨h0, h1, h2, h3, h4⟩ := h
  have en : ∀ j x (g : Nat → Int32), upd g j x j = x := fun j x g => upd_at g j x
  have ne : ∀ j c x (g : Nat → Int32), ¬ c = j → upd g j x c = g c := fun j c x g hc => by rw [upd, if_neg hc]
  refine ⟨?_, ?_, ?_, ?_, fun c hc => ?_⟩
  · rw [ne _ _ _ _ (by omega), ne _ _ _ _ (by omega), ne _ _ _ _ (by omega), h0]
  · rw [ne _ _ _ _ (by omega), en]
    unfold atv
    rw [if_neg (Nat.succ_ne_zero d), hk9]
    rfl
  · rw [en, hv, Int32.add_assoc, nI_1]
  · rw [ne _ _ _ _ (by omega), ne _ _ _ _ (by omega), ne _ _ _ _ (by omega), h3]
  · rw [ne _ _ _ _ (by omega), ne _ _ _ _ (by omega)]
    show _ = upd _ _ _ c
    rw [← hk9]
    by_cases q : c = (s_key S k).toNatClampNeg
    · rw [← q, en, en]
    · rw [ne _ _ _ _ (by omega), ne _ _ _ _ q, h4 c hc]
theorem hRow_all {S : St} {dd : Nat → Nat} {sr : Nat → Nat → Int32} {i k : Nat} {v : Int32} (hs : ∀ i, i < s_sh S → hRow S i (dd i) (sr i)) (hi : i < s_sh S) (hk9 : k = pf (s_off S) (s_at S i) (s_n S) + dd i) (hv : v = s_hd S i + nI (dd i)) (hkk : (s_key S k).toNatClampNeg < 10) {s1 s2 s3 : Nat → Nat → Int32} (e1 : s1 = va_up sr i (upd (sr i) (4 + (s_key S k).toNatClampNeg) (s_val S k))) (e2 : s2 = va_up s1 i (upd (s1 i) 1 (s_off S k + 1))) (e3 : s3 = va_up s2 i (upd (s2 i) 2 (v + 1))) : ∀ j, j < s_sh S → hRow S j (dup1 dd i j) (s3 j) := by
  intro j hj
  by_cases h : j = i
  · rw [h, dup1_z, e3, vup_at, e2, vup_at, e1, vup_at]
    exact hRow_s (hs i hi) hk9 hv hkk
  · rw [dup1_n h]
    have ne : ∀ (g : Nat → Nat → Int32) x, va_up g i x j = g j := fun g x => by simp [va_up, h]
    rw [e3, ne, e2, ne, e1, ne]
    exact hs j hj
theorem row2_at {sr s1 s2 : Nat → Nat → Int32} {i a : Nat} {x y : Int32} (e1 : s1 = va_up sr i (upd (sr i) (4 + a) x)) (e2 : s2 = va_up s1 i (upd (s1 i) 1 y)) : s2 i 2 = sr i 2 := by
  rw [e2, vup_at, e1, vup_at]
  unfold upd
  rw [if_neg (by omega), if_neg (by omega)]
theorem S_ps_keep3 (S : St) (h : Nat) : ∀ k, s_dr (S_ps S h k) = s_dr S ∧ s_said (S_ps S h k) = s_said S ∧ s_sto (S_ps S h k) = s_sto S ∧ s_ms (S_ps S h k) = s_ms S := by
  intro k
  induction k with
  | zero => exact ⟨rfl, rfl, rfl, rfl⟩
  | succ k ih => exact ih
theorem S_ps_pt (S : St) (h : Nat) : ∀ k, (∀ i, s_at (S_ps S h k) i = if i < k then atv S i (s_dh S h i) else s_at S i) ∧ (∀ i, s_hd (S_ps S h k) i = if i < k then s_hd S i + nI (s_dh S h i) else s_hd S i) ∧ (∀ i, s_kn (S_ps S h k) i = if i < k then hk (s_key S) (s_val S) (pf (s_off S) (s_at S i) (s_n S)) (s_kn S i) (s_dh S h i) else s_kn S i) ∧ s_ph S h k = sumN (s_dh S h) k := by
  intro k
  induction k with
  | zero => exact ⟨fun i => rfl, fun i => rfl, fun i => rfl, rfl⟩
  | succ k ih =>
    obtain ⟨a1, a2, a3, a4⟩ := ih
    obtain ⟨k1, k2, k3, k4, k5, k6, k7⟩ := S_ps_keep S h k
    have ea : s_at (S_ps S h k) k = s_at S k := by rw [a1, if_neg (Nat.lt_irrefl k)]
    have ehd : s_hd (S_ps S h k) k = s_hd S k := by rw [a2, if_neg (Nat.lt_irrefl k)]
    have ekn : s_kn (S_ps S h k) k = s_kn S k := by rw [a3, if_neg (Nat.lt_irrefl k)]
    have ed : s_dh (S_ps S h k) h k = s_dh S h k := by
      rw [s_dh_eq, s_dh_eq]
      unfold mhN pN
      rw [k1, k3, k5, k6, ea]
    refine ⟨fun i => ?_, fun i => ?_, fun i => ?_, ?_⟩
    · show (if s_dh (S_ps S h k) h k = 0 then s_at (S_ps S h k) else upd (s_at (S_ps S h k)) k (s_off (S_ps S h k) (pf (s_off (S_ps S h k)) (s_at (S_ps S h k) k) (s_n (S_ps S h k)) + s_dh (S_ps S h k) h k - 1) + 1)) i = _
      rw [ed, k1, k3, ea]
      by_cases hi : i = k
      · rw [hi, if_pos (Nat.lt_succ_self k)]
        unfold atv
        by_cases h0 : s_dh S h k = 0
        · rw [if_pos h0, if_pos h0, ea]
        · rw [if_neg h0, if_neg h0, upd_at]
      · have e : (if s_dh S h k = 0 then s_at (S_ps S h k) else upd (s_at (S_ps S h k)) k (s_off S (pf (s_off S) (s_at S k) (s_n S) + s_dh S h k - 1) + 1)) i = s_at (S_ps S h k) i := by
          split
          · rfl
          · rw [upd, if_neg hi]
        rw [e, a1]
        by_cases hl : i < k
        · rw [if_pos hl, if_pos (by omega)]
        · rw [if_neg hl, if_neg (by omega)]
    · show upd (s_hd (S_ps S h k)) k (s_hd (S_ps S h k) k + nI (s_dh (S_ps S h k) h k)) i = _
      rw [ed, ehd]
      by_cases hi : i = k
      · rw [hi, upd_at, if_pos (Nat.lt_succ_self k)]
      · rw [upd, if_neg hi, a2]
        by_cases hl : i < k
        · rw [if_pos hl, if_pos (by omega)]
        · rw [if_neg hl, if_neg (by omega)]
    · show va_up (s_kn (S_ps S h k)) k (hk (s_key (S_ps S h k)) (s_val (S_ps S h k)) (pf (s_off (S_ps S h k)) (s_at (S_ps S h k) k) (s_n (S_ps S h k))) (s_kn (S_ps S h k) k) (s_dh (S_ps S h k) h k)) i = _
      rw [ed, ekn, k1, k2, k3, k7, ea]
      by_cases hi : i = k
      · rw [hi, vup_at, if_pos (Nat.lt_succ_self k)]
      · have e : ∀ x, va_up (s_kn (S_ps S h k)) k x i = s_kn (S_ps S h k) i := fun x => by simp [va_up, hi]
        rw [e, a3]
        by_cases hl : i < k
        · rw [if_pos hl, if_pos (by omega)]
        · rw [if_neg hl, if_neg (by omega)]
    · show s_ph S h k + s_dh (S_ps S h k) h k = sumN (s_dh S h) k + s_dh S h k
      rw [ed, a4]
theorem rep_pass {E : gE} {d : Dt} {S : St} {h : Nat} {sr : Nat → Nat → Int32} (hh : h < 1000000) (hR : Rep E d S) (hs : ∀ i, i < s_sh S → hRow S i (s_dh S h i) (sr i)) : Rep E (mkD9 (d_1 d) (d_2 d) (d_3 d) (d_l d) (d_s d) (d_f d) (d_a d) sr (d_p d)) (S_pass S (nI h)) ∧ ∀ (o : Nat) (F : va_W), sW E o (mkD9 (d_1 d) (d_2 d) (d_3 d) (d_l d) (d_s d) (d_f d) (d_a d) sr (d_p d)) (S_pass S (nI h)) F = sR E o (d_1 d) (d_2 d) (d_3 d) (s_hr S + nI h) (s_nx S) (s_dr S) (s_on S) (s_n S) (d_l d) (s_sc S) (d_s d) (s_sh S) (d_f d) (shC E (d_a d) sr (s_sh S) ++ (d_p d ++ F)) := by
  obtain ⟨k1, k2, k3, k4, k5, k6, k7⟩ := S_ps_keep S h (s_sh S)
  obtain ⟨k8, k9⟩ := S_ps_keep2 S h (s_sh S)
  obtain ⟨m1, m2, m3, m4⟩ := S_ps_keep3 S h (s_sh S)
  obtain ⟨a1, a2, a3, a4⟩ := S_ps_pt S h (s_sh S)
  have ec : (nI h).toNatClampNeg = h := nI_clamp (by omega)
  refine ⟨⟨fun i hi => ?_, fun i hi => ?_, fun i hi => ?_⟩, fun o F => ?_⟩
  · show ∃ (q : Nat) (f : Nat → Int32), d_l d i = some q ∧ ((q, .inl (eI E, 4, .inl f)) : Nat × va_E) ∈ d_p d ∧ f 0 = s_off (S_ps S (nI h).toNatClampNeg (s_sh S)) i ∧ f 1 = s_key (S_ps S (nI h).toNatClampNeg (s_sh S)) i ∧ f 2 = s_val (S_ps S (nI h).toNatClampNeg (s_sh S)) i ∧ f 3 = s_sto (S_ps S (nI h).toNatClampNeg (s_sh S)) i
    have hi : i < s_n (S_ps S (nI h).toNatClampNeg (s_sh S)) := hi
    rw [ec] at hi ⊢
    rw [k3] at hi
    rw [k1, k2, k7, m3]
    exact hR.1 i hi
  · show d_s d i = s_said (S_ps S (nI h).toNatClampNeg (s_sh S)) i
    have hi : i < s_sc (S_ps S (nI h).toNatClampNeg (s_sh S)) := hi
    rw [ec] at hi ⊢
    rw [k9] at hi
    rw [m2]
    exact hR.2.1 i hi
  · have hi : i < s_sh (S_ps S (nI h).toNatClampNeg (s_sh S)) := hi
    show d_f d i = some (d_a d i) ∧ sr i 0 = s_pc (S_ps S (nI h).toNatClampNeg (s_sh S)) i ∧ sr i 1 = s_at (S_ps S (nI h).toNatClampNeg (s_sh S)) i ∧ sr i 2 = s_hd (S_ps S (nI h).toNatClampNeg (s_sh S)) i ∧ sr i 3 = s_ms (S_ps S (nI h).toNatClampNeg (s_sh S)) i ∧ ∀ c, c < 10 → sr i (4 + c) = s_kn (S_ps S (nI h).toNatClampNeg (s_sh S)) i c
    rw [ec] at hi ⊢
    rw [k4] at hi
    rw [k5, a1, a2, a3, m4, if_pos hi, if_pos hi, if_pos hi]
    exact ⟨(hR.2.2 i hi).1, hs i hi⟩
  · unfold sW
    show sR E o (d_1 d) (d_2 d) (d_3 d) (s_hr S + nI h) (s_nx (S_ps S (nI h).toNatClampNeg (s_sh S))) (s_dr (S_ps S (nI h).toNatClampNeg (s_sh S))) (s_on (S_ps S (nI h).toNatClampNeg (s_sh S))) (s_n (S_ps S (nI h).toNatClampNeg (s_sh S))) (d_l d) (s_sc (S_ps S (nI h).toNatClampNeg (s_sh S))) (d_s d) (s_sh (S_ps S (nI h).toNatClampNeg (s_sh S))) (d_f d) (shC E (d_a d) sr (s_sh (S_ps S (nI h).toNatClampNeg (s_sh S))) ++ (d_p d ++ F)) = _
    rw [ec, k8, m1, k6, k3, k9, k4]
theorem hRow_0 {E : gE} {d : Dt} {S : St} (hR : Rep E d S) : ∀ i, i < s_sh S → hRow S i (s_dh S 0 i) (d_r d i) := by
  intro i hi
  obtain ⟨-, h0, h1, h2, h3, h4⟩ := hR.2.2 i hi
  rw [s_dh_0]
  exact ⟨h0, h1, by rw [nI_0, Int32.add_zero]; exact h2, h3, h4⟩
theorem sum_dh0 (S : St) : ∀ k, sumN (s_dh S 0) k = 0 := by
  intro k
  induction k with
  | zero => rfl
  | succ k ih => unfold sumN; rw [ih, s_dh_0]
theorem sum_dhon {S : St} (hon : ¬ s_on S = 0) (h h2 : Nat) (k : Nat) : sumN (s_dh S h2) k = sumN (s_dh S h) k := sumN_congr k (fun i _ => by rw [s_dh_on _ _ hon, s_dh_on _ _ hon])
