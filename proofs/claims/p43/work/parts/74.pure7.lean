-- ONE THING DONE TO BOTH
theorem nx_of {S : St} {B : Int} (h : lwI S B) (hB : B < 2147480000) : ∃ z : Nat, z < 2147480000 ∧ s_nx S = nI z ∧ (z : Int) ≤ B := by
  obtain ⟨-, -, -, -, h5, h6⟩ := h.1
  obtain ⟨z, hz, e⟩ := nI_of (x := s_nx S) (by rw [Int32.lt_iff_toInt_lt, show (0 : Int32).toInt = 0 from rfl]; omega)
  rw [e, nI_toInt hz] at h6
  exact ⟨z, by omega, e, h6⟩
theorem okOff_nI {S : St} {z j : Nat} (e : s_nx S = nI z) (hz : z < 2147480000) (hj : j ≤ z) : okOff S (nI j) := by
  refine ⟨nI_pos (by omega), ?_⟩
  rw [e, nI_ltI (by omega) (by omega)]
  omega
theorem okPace_nI {q : Nat} (h1 : 1 ≤ q) (h5 : q ≤ 5) : okPace (nI q) := by
  have e1 : (1 : Int32) = nI 1 := rfl
  have e5 : (5 : Int32) = nI 5 := rfl
  unfold okPace
  rw [e1, e5, nI_ltI (by omega) (by omega), nI_ltI (by omega) (by omega)]
  omega
theorem okHours_nI {q : Nat} (h1 : 1 ≤ q) (h5 : q ≤ 60) : okHours (nI q) := by
  have e1 : (1 : Int32) = nI 1 := rfl
  have e5 : (60 : Int32) = nI 60 := rfl
  unfold okHours
  rw [e1, e5, nI_ltI (by omega) (by omega), nI_ltI (by omega) (by omega)]
  omega
theorem okVal_b {j : Nat} (hj : j < 1999) : okVal (nI j - nI 999) := by
  have e : (nI j - nI 999).toInt = (j : Int) - 999 := pk_sub_toInt (by omega) (by omega)
  have e1 : (-999 : Int32).toInt = -999 := rfl
  have e2 : (999 : Int32).toInt = 999 := rfl
  unfold okVal
  rw [Int32.lt_iff_toInt_lt, Int32.lt_iff_toInt_lt, e, e1, e2]
  omega
theorem okVal_0 : okVal 0 := ⟨by decide, by decide⟩
theorem ky9_nI {j : Nat} (h : j < 10) : ky9 (nI j) := by
  have e : (nI j).toNatClampNeg = j := nI_clamp (by omega)
  unfold ky9
  rw [e]
  exact ⟨h, rfl⟩
theorem shC_new {E : gE} {ra : Nat → Nat} {sr : Nat → Nat → Int32} {k q : Nat} {f : Nat → Int32} {G : va_W} : ((q, .inl (eI E, 14, .inl f)) : Nat × va_E) ∈ shC E (va_up ra k q) (va_up sr k f) (k + 1) ++ G := by
  rw [← shC_push]
  exact List.mem_append_right _ (.head _)
theorem rep_ship {E : gE} {d : Dt} {S : St} {q w : Nat} {g : Nat → Option Nat} {f : Nat → Int32} {pc o : Int32} (hR : Rep E d S) (hx : s_hd S (s_sh S) = 0 ∧ s_ms S (s_sh S) = 0 ∧ ∀ c, s_kn S (s_sh S) c = 0) (hg : ∀ i, i < s_sh S → g i = d_f d i) (hq : g (s_sh S) = some q) (h0 : f 0 = pc) (h1 : f 1 = o) (h2 : ∀ c, 2 ≤ c → f c = 0) : Rep E (mkD9 (d_1 d) (d_2 d) w (d_l d) (d_s d) g (va_up (d_a d) (s_sh S) q) (va_up (d_r d) (s_sh S) f) (d_p d)) (S_ship S pc o) := by
  refine ⟨hR.1, hR.2.1, fun i hi => ?_⟩
  have hi : i < s_sh S + 1 := hi
  show g i = some (va_up (d_a d) (s_sh S) q i) ∧ va_up (d_r d) (s_sh S) f i 0 = upd (s_pc S) (s_sh S) pc i ∧ va_up (d_r d) (s_sh S) f i 1 = upd (s_at S) (s_sh S) o i ∧ va_up (d_r d) (s_sh S) f i 2 = s_hd S i ∧ va_up (d_r d) (s_sh S) f i 3 = s_ms S i ∧ ∀ c, c < 10 → va_up (d_r d) (s_sh S) f i (4 + c) = s_kn S i c
  by_cases z : i = s_sh S
  · rw [z, vup_at, vup_at, upd_at, upd_at, hx.1, hx.2.1]
    exact ⟨hq, h0, h1, h2 2 (by omega), h2 3 (by omega), fun c _ => by rw [hx.2.2 c]; exact h2 (4 + c) (by omega)⟩
  · have ne : ∀ {α : Type} (g : Nat → α) (x : α), va_up g (s_sh S) x i = g i := fun g x => by simp [va_up, z]
    rw [ne, ne, upd, if_neg z, upd, if_neg z, hg i (by omega)]
    exact hR.2.2 i (by omega)
theorem rep_seek {E : gE} {d : Dt} {S : St} {z : Nat} {o : Int32} (hR : Rep E d S) : Rep E (mkD9 (d_1 d) (d_2 d) (d_3 d) (d_l d) (d_s d) (d_f d) (d_a d) (va_up (d_r d) z (upd (d_r d z) 1 o)) (d_p d)) (S_at S (upd (s_at S) z o)) := by
  refine ⟨hR.1, hR.2.1, fun i hi => ?_⟩
  have hi : i < s_sh S := hi
  obtain ⟨k1, k2, k3, k4, k5, k6⟩ := hR.2.2 i hi
  show d_f d i = some (d_a d i) ∧ va_up (d_r d) z (upd (d_r d z) 1 o) i 0 = s_pc S i ∧ va_up (d_r d) z (upd (d_r d z) 1 o) i 1 = upd (s_at S) z o i ∧ va_up (d_r d) z (upd (d_r d z) 1 o) i 2 = s_hd S i ∧ va_up (d_r d) z (upd (d_r d z) 1 o) i 3 = s_ms S i ∧ ∀ c, c < 10 → va_up (d_r d) z (upd (d_r d z) 1 o) i (4 + c) = s_kn S i c
  by_cases e : i = z
  · rw [← e, vup_at]
    exact ⟨k1, k2, by rw [upd_at, upd_at], k4, k5, fun c hc => by rw [upd, if_neg (by omega)]; exact k6 c hc⟩
  · have ne : va_up (d_r d) z (upd (d_r d z) 1 o) i = d_r d i := by simp [va_up, e]
    rw [ne, upd, if_neg e]
    exact ⟨k1, k2, k3, k4, k5, k6⟩
theorem rep_storm1 {E : gE} {d : Dt} {S : St} {q : Nat} {f : Nat → Int32} (hR : Rep E d S) (hx : s_said S (s_sc S) = 0) (hf : ∀ i, i < s_sc S → f i = s_said S i) (h0 : f (s_sc S) = 0) : Rep E (mkD9 (d_1 d) q (d_3 d) (d_l d) f (d_f d) (d_a d) (d_r d) (d_p d)) (S_storm S 1 (s_sc S + 1)) := by
  refine ⟨hR.1, fun i hi => ?_, hR.2.2⟩
  have hi : i < s_sc S + 1 := hi
  show f i = s_said S i
  by_cases e : i = s_sc S
  · rw [e, h0, hx]
  · exact hf i (by omega)
theorem cnt_mono (f : Nat → Int32) (x : Int32) {i : Nat} : ∀ n, i ≤ n → cnt f x i ≤ cnt f x n := by
  intro n
  induction n with
  | zero => intro h; rw [show i = 0 by omega]; exact Nat.le_refl _
  | succ n ih =>
    intro h
    by_cases e : i = n + 1
    · rw [e]; exact Nat.le_refl _
    · have := ih (by omega)
      show _ ≤ cnt f x n + _
      omega
theorem fl_at (f sto : Nat → Int32) (x : Int32) (g : Nat → Int32) {k : Nat} (hk : sto k = x) : ∀ n, k < n → flF f sto x g n (cnt sto x k) = f k := by
  intro n
  induction n with
  | zero => intro h; omega
  | succ n ih =>
    intro h
    by_cases e : k = n
    · rw [← e, fl_s1 hk, upd_at]
    · have h1 := ih (by omega)
      by_cases hn : sto n = x
      · have h2 : cnt sto x k < cnt sto x n := by
          have := cnt_mono sto x (i := k + 1) n (by omega)
          rw [cnt_s1 hk] at this
          omega
        rw [fl_s1 hn, upd, if_neg (by omega), h1]
      · rw [fl_s0 hn, h1]
/-- a replay's next phrase -/
theorem rp_next {S : St} {x : Int32} {k : Nat} (hk : k < s_n S) (hs : s_sto S k = x) : S_spk (S_rp S (s_rk S x) (s_rv S x) (cnt (s_sto S) x k)) (s_key S k) (s_val S k) = S_rp S (s_rk S x) (s_rv S x) (cnt (s_sto S) x (k + 1)) := by
  rw [cnt_s1 hs]
  show _ = S_spk (S_rp S (s_rk S x) (s_rv S x) (cnt (s_sto S) x k)) (s_rk S x (cnt (s_sto S) x k)) (s_rv S x (cnt (s_sto S) x k))
  rw [show s_rk S x (cnt (s_sto S) x k) = s_key S k from fl_at _ _ _ _ hs _ hk, show s_rv S x (cnt (s_sto S) x k) = s_val S k from fl_at _ _ _ _ hs _ hk]
/-- trimming, one by one -/
theorem trim_first {S T : St} {g : Nat → Int32} {sg : Nat → Nat} {k : Nat} (hD : dR S g T sg) (hg : ∀ i, i < s_n S → (g i = 0 ↔ ¬ i < k)) (h0 : 0 < s_n T) : sg 0 = k ∧ k < s_n S := by
  obtain ⟨q1, q2⟩ := hD.2.1 0 h0
  have h1 := (hg _ q1).mp q2
  obtain ⟨j, hj, e⟩ := hD.2.2.2.1 k (by omega) ((hg k (by omega)).mpr (by omega))
  by_cases hz : j = 0
  · rw [hz] at e; exact ⟨e, by omega⟩
  · have := hD.2.2.1 0 j (by omega) hj
    omega
theorem trim_up {g : Nat → Int32} {k n : Nat} (hg : ∀ i, i < n → (g i = 0 ↔ ¬ i < k)) : ∀ i, i < n → (upd g k 1 i = 0 ↔ ¬ i < k + 1) := by
  intro i hi
  by_cases e : i = k
  · rw [e, upd_at]
    exact ⟨fun z => absurd z (by decide), fun z => absurd (Nat.lt_succ_self k) z⟩
  · rw [upd, if_neg e, hg i hi]
    omega
theorem trim_end {S : St} {g : Nat → Int32} {k : Nat} {o : Int32} (hs : s_srt S) (hg : ∀ i, i < s_n S → (g i = 0 ↔ ¬ i < k)) (h1 : ∀ i, i < k → s_off S i < o) (h2 : k < s_n S → ¬ s_off S k < o) : ∀ i, i < s_n S → (g i = 0 ↔ gAhead (s_off S) o i = 0) := by
  intro i hi
  rw [hg i hi]
  unfold gAhead
  by_cases hk : i < k
  · rw [if_pos (h1 i hk)]
    exact ⟨fun z => absurd hk z, fun z => absurd z (by decide)⟩
  · have h3 : ¬ s_off S i < o := by
      have h4 := h2 (by omega)
      by_cases e : i = k
      · rw [e]; exact h4
      · have h5 := hs k i (by omega) hi
        rw [Int32.lt_iff_toInt_lt] at h4 h5 ⊢
        omega
    rw [if_neg h3]
    exact ⟨fun _ => rfl, fun _ => hk⟩
abbrev aT : Type := St × Dt × (Nat → Int32) × (Nat → Int32) × (Nat → Int32)
abbrev aP (E : gE) (B : Int) : Int32 → aT → Prop := fun r u => r = 1 ∧ J9 u.1 B ∧ Rep E u.2.1 u.1
abbrev aW (E : gE) (o : Nat) (a : Nat → Nat) (F : va_W) : aT → va_W := fun u => sW E o u.2.1 u.1 (xW E a u.1 u.2.2.1 u.2.2.2.1 u.2.2.2.2 ++ F)
abbrev aR : Room := { frames := 9, cells := 200, slots := 6000, locals := 140 }
