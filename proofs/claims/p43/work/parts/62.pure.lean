theorem vup_ext {g lf : Nat → Option Nat} {k q : Nat} (hg : ∀ i, i < k → g i = lf i) (hq : lf k = some q) : ∀ i, i < k + 1 → va_up g k (some q) i = lf i := by
  intro i hi
  by_cases h9 : i = k
  · rw [h9, hq]
    simp [va_up]
  · simp only [va_up, if_neg h9]
    exact hg i (by omega)
/-- the value of the last of the first k phrases with a key -/
def wvT (S : St) (kk : Int32) (k : Nat) : Int32 := match lpO (s_key S) kk 0 k with | none => 0 | some i => s_val S i
theorem wvT_1 {S : St} {kk : Int32} {k : Nat} (h : s_key S k = kk) : wvT S kk (k + 1) = s_val S k := by
  unfold wvT lpO
  rw [if_pos (Nat.zero_le _), if_pos h]
theorem wvT_0 {S : St} {kk : Int32} {k : Nat} (h : ¬ s_key S k = kk) : wvT S kk (k + 1) = wvT S kk k := by
  unfold wvT
  rw [show lpO (s_key S) kk 0 (k + 1) = lpO (s_key S) kk 0 k by rw [lpO, if_pos (Nat.zero_le _), if_neg h]]
theorem s_kv0 (S : St) (i c : Nat) : s_kv S i (pf (s_off S) (s_at S i) (s_n S)) (s_to S i 0) c = s_kn S i c := by
  unfold s_kv
  rw [lpO_ge (by unfold s_to; omega)]
-- ONE PHRASE DROPPED
def g1 (z : Nat) : Nat → Int32 := fun i => if i = z then 1 else 0
theorem g1_z (z : Nat) : ¬ g1 z z = 0 := by unfold g1; rw [if_pos rfl]; decide
theorem g1_n {z i : Nat} (h : ¬ i = z) : g1 z i = 0 := if_neg h
theorem cpN_g1 (z : Nat) : ∀ n, cpN (g1 z) n = if z < n then n - 1 else n := by
  intro n
  induction n with
  | zero => rfl
  | succ n ih =>
    by_cases h : n = z
    · subst h
      rw [cp_s0 (g1_z n), ih, if_neg (by omega), if_pos (by omega)]
      rfl
    · rw [cp_s1 (g1_n h), ih]
      split <;> split <;> omega
theorem cpN_g1z {z n : Nat} (h : z < n) : cpN (g1 z) n = n - 1 := by rw [cpN_g1, if_pos h]
theorem cpF_g1 (z : Nat) (f : Nat → Int32) : ∀ n j, j < cpN (g1 z) n → cpF (g1 z) f n j = f (if j < z then j else j + 1) := by
  intro n
  induction n with
  | zero => intro j h; exact absurd h (Nat.not_lt_zero _)
  | succ n ih =>
    intro j hj
    by_cases h : n = z
    · subst h
      rw [cp_s0 (g1_z n)] at hj
      rw [cf_s0 (g1_z n)]
      exact ih j hj
    · rw [cp_s1 (g1_n h)] at hj
      rw [cf_s1 (g1_n h)]
      by_cases hc : j = cpN (g1 z) n
      · simp only [upd, if_pos hc]
        rw [cpF_ge (g1 z) f n n (cpN_le _ n) (Nat.le_refl _)]
        rw [cpN_g1] at hc
        congr 1
        split at hc <;> split <;> omega
      · simp only [upd, if_neg hc]
        exact ih j (by omega)
theorem cm_g1 (z fr : Nat) : ∀ n, cm (g1 z) fr n = if fr ≤ z ∧ z < n then 1 else 0 := by
  intro n
  induction n with
  | zero => rw [if_neg (by omega)]; rfl
  | succ n ih =>
    unfold cm
    rw [ih]
    by_cases h : n = z
    · subst h
      rw [if_neg (by omega)]
      by_cases hf : fr ≤ n
      · rw [if_pos ⟨hf, g1_z n⟩, if_pos ⟨hf, by omega⟩]
      · rw [if_neg (fun q => hf q.1), if_neg (fun q => hf q.1)]
    · rw [if_neg (show ¬ (fr ≤ n ∧ ¬ g1 z n = 0) from fun q => q.2 (g1_n h)), Nat.add_zero]
      by_cases hf : fr ≤ z ∧ z < n
      · rw [if_pos hf, if_pos ⟨hf.1, by omega⟩]
      · rw [if_neg hf, if_neg (fun q => hf ⟨q.1, by omega⟩)]
theorem md_1 {S : St} {z i : Nat} (hs : s_srt S) (hz : z < s_n S) (hi : i < s_sh S) (h : ¬ s_off S z < s_at S i) : s_md S (g1 z) i = s_ms S i + 1 := by
  unfold s_md
  rw [mkU_at hi, cm_g1, if_pos ⟨(pf_iff hs hz).mpr h, hz⟩]
  rfl
theorem md_0 {S : St} {z i : Nat} (hs : s_srt S) (hz : z < s_n S) (hi : i < s_sh S) (h : s_off S z < s_at S i) : s_md S (g1 z) i = s_ms S i := by
  unfold s_md
  rw [mkU_at hi, cm_g1, if_neg (fun q => (pf_iff hs hz).mp q.1 h), nI_0, Int32.add_zero]
theorem rep_drop {E : gE} {d : Dt} {S : St} {z q : Nat} {g : Nat → Option Nat} {sr2 : Nat → Nat → Int32} {x9 : Nat × va_E} (hR : Rep E d S) (hz : z < s_n S) (hg : ∀ i, i < s_n S - 1 → g i = d_l d (if i < z then i else i + 1)) (hs : ∀ i, i < s_sh S → (∀ c, c ≠ 3 → sr2 i c = d_r d i c) ∧ sr2 i 3 = s_md S (g1 z) i) : Rep E (mkD9 q (d_2 d) (d_3 d) g (d_s d) (d_f d) (d_a d) sr2 (x9 :: d_p d)) (S_drop S (g1 z)) := by
  refine ⟨fun i hi => ?_, fun i hi => hR.2.1 i hi, fun i hi => ?_⟩
  · have hi : i < cpN (g1 z) (s_n S) := hi
    have e9 := cpN_g1z hz
    obtain ⟨q9, f9, h1, h2, h3, h4, h5, h6⟩ := hR.1 (if i < z then i else i + 1) (by split <;> omega)
    exact ⟨q9, f9, (hg i (by omega)).trans h1, .tail _ h2, h3.trans (cpF_g1 z _ _ i hi).symm, h4.trans (cpF_g1 z _ _ i hi).symm, h5.trans (cpF_g1 z _ _ i hi).symm, h6.trans (cpF_g1 z _ _ i hi).symm⟩
  · have hi : i < s_sh S := hi
    obtain ⟨k1, k2, k3, k4, k5, k6⟩ := hR.2.2 i hi
    obtain ⟨g1, g2⟩ := hs i hi
    exact ⟨k1, (g1 0 (by decide)).trans k2, (g1 1 (by decide)).trans k3, (g1 2 (by decide)).trans k4, g2, fun c hc => (g1 (4 + c) (by omega)).trans (k6 c hc)⟩
theorem S_room_g1 {S : St} (h : ¬ s_n S < 48) : S_room S = S_drop S (g1 0) := by unfold S_room; rw [if_neg h]; rfl
theorem s_tag_room (S : St) : s_tag (S_room S) = s_tag S ∧ s_on (S_room S) = s_on S ∧ s_sc (S_room S) = s_sc S ∧ s_nx (S_room S) = s_nx S := by
  unfold S_room
  split <;> exact ⟨rfl, rfl, rfl, rfl⟩
theorem md_st {S : St} {sr2 sr0 : Nat → Nat → Int32} {j z : Nat} (hs : ∀ i, i < s_sh S → (∀ c, c ≠ 3 → sr2 i c = sr0 i c) ∧ sr2 i 3 = (if i < j then s_md S (g1 z) i else s_ms S i)) (h : s_md S (g1 z) j = s_ms S j + 1) : ∀ i, i < s_sh S → (∀ c, c ≠ 3 → va_up sr2 j (upd (sr2 j) 3 (s_ms S j + 1)) i c = sr0 i c) ∧ va_up sr2 j (upd (sr2 j) 3 (s_ms S j + 1)) i 3 = (if i < j + 1 then s_md S (g1 z) i else s_ms S i) := by
  intro i hi
  obtain ⟨h1, h2⟩ := hs i hi
  by_cases hj : i = j
  · rw [hj] at h1 ⊢
    refine ⟨fun c hc => ?_, ?_⟩
    · simp only [va_up, if_pos, upd, if_neg hc]
      exact h1 c hc
    · simp only [va_up, if_pos, upd]
      rw [if_pos (Nat.lt_succ_self j)]
      exact h.symm
  · refine ⟨fun c hc => ?_, ?_⟩
    · simp only [va_up, if_neg hj]
      exact h1 c hc
    · simp only [va_up, if_neg hj]
      rw [h2]
      by_cases hl : i < j
      · rw [if_pos hl, if_pos (by omega)]
      · rw [if_neg hl, if_neg (by omega)]
theorem md_sk {S : St} {sr2 sr0 : Nat → Nat → Int32} {j z : Nat} (hs : ∀ i, i < s_sh S → (∀ c, c ≠ 3 → sr2 i c = sr0 i c) ∧ sr2 i 3 = (if i < j then s_md S (g1 z) i else s_ms S i)) (h : s_md S (g1 z) j = s_ms S j) : ∀ i, i < s_sh S → (∀ c, c ≠ 3 → sr2 i c = sr0 i c) ∧ sr2 i 3 = (if i < j + 1 then s_md S (g1 z) i else s_ms S i) := by
  intro i hi
  obtain ⟨h1, h2⟩ := hs i hi
  refine ⟨h1, ?_⟩
  rw [h2]
  by_cases hj : i = j
  · rw [hj, if_neg (Nat.lt_irrefl j), if_pos (Nat.lt_succ_self j), h]
  · by_cases hl : i < j
    · rw [if_pos hl, if_pos (by omega)]
    · rw [if_neg hl, if_neg (by omega)]
-- A PHRASE SAID
theorem spk_off {S S2 : St} (h : S2 = S_room S) (h0 : s_on S2 = 0) (k v : Int32) : S_spk S k v = S_app S2 k v (-1) := by
  subst h
  unfold S_spk
  rw [← (s_tag_room S).1]
  unfold S_cntd s_tag
  rw [if_pos h0, if_pos h0]
theorem spk_on {S S2 : St} (h : S2 = S_room S) (h0 : ¬ s_on S2 = 0) (k v : Int32) : S_spk S k v = S_app (S_said S2 (upd (s_said S2) (s_sc S2 - 1) (s_said S2 (s_sc S2 - 1) + 1))) k v (nI (s_sc S2 - 1)) := by
  subst h
  unfold S_spk
  rw [← (s_tag_room S).1]
  unfold S_cntd s_tag
  rw [if_neg h0, if_neg h0]
theorem rep_app {E : gE} {d : Dt} {S : St} {q q2 : Nat} {g : Nat → Option Nat} {sd x f : Nat → Int32} {x9 : Nat × va_E} {k v t : Int32} (hR : Rep E d S) (hg : ∀ i, i < s_n S → g i = d_l d i) (hq : g (s_n S) = some q2) (hx : ∀ i, i < s_sc S → sd i = x i) (h0 : f 0 = s_nx S) (h1 : f 1 = k) (h2 : f 2 = v) (h3 : f 3 = t) : Rep E (mkD9 q (d_2 d) (d_3 d) g sd (d_f d) (d_a d) (d_r d) ((q2, .inl (eI E, 4, .inl f)) :: x9 :: d_p d)) (S_app (S_said S x) k v t) := by
  refine ⟨fun i hi => ?_, fun i hi => hx i hi, fun i hi => hR.2.2 i hi⟩
  have hi : i < s_n S + 1 := hi
  by_cases h9 : i = s_n S
  · refine ⟨q2, f, by rw [h9]; exact hq, .head _, ?_, ?_, ?_, ?_⟩
    · show f 0 = upd (s_off S) (s_n S) (s_nx S) i
      rw [h9, upd_at, h0]
    · show f 1 = upd (s_key S) (s_n S) k i
      rw [h9, upd_at, h1]
    · show f 2 = upd (s_val S) (s_n S) v i
      rw [h9, upd_at, h2]
    · show f 3 = upd (s_sto S) (s_n S) t i
      rw [h9, upd_at, h3]
  · obtain ⟨q9, f9, g1, g2, g3, g4, g5, g6⟩ := hR.1 i (by omega)
    refine ⟨q9, f9, (hg i (by omega)).trans g1, .tail _ (.tail _ g2), ?_, ?_, ?_, ?_⟩
    · show f9 0 = upd (s_off S) (s_n S) (s_nx S) i
      rw [upd, if_neg h9, g3]
    · show f9 1 = upd (s_key S) (s_n S) k i
      rw [upd, if_neg h9, g4]
    · show f9 2 = upd (s_val S) (s_n S) v i
      rw [upd, if_neg h9, g5]
    · show f9 3 = upd (s_sto S) (s_n S) t i
      rw [upd, if_neg h9, g6]
