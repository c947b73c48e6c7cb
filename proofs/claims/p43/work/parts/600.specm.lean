theorem bIf {P Q : Prop} [Decidable P] [Decidable Q] (h : P ↔ Q) : (if P then (1 : Int32) else 0) = if Q then 1 else 0 := by
  by_cases q : Q
  · rw [if_pos q, if_pos (h.mpr q)]
  · rw [if_neg q, if_neg (fun z => q (h.mp z))]
theorem bNar {P : Prop} [Decidable P] : narrow .boolean (.int (if P then (1 : Int32) else 0)) = .int (if P then 1 else 0) := by
  by_cases q : P
  · rw [if_pos q]; rfl
  · rw [if_neg q]; rfl
theorem in_lt {i : Int32} {n : Nat} (hn : n < 1000000) : ¬ nI n - 1 < i ↔ i < nI n := by
  have h := pk_sub_toInt (a := n) (b := 1) (by omega) (by omega)
  rw [Int32.lt_iff_toInt_lt, Int32.lt_iff_toInt_lt, show nI n - 1 = nI n - nI 1 from rfl, h, nI_toInt (by omega)]
  omega
theorem in_key {k : Int32} : (¬ k < 0 ∧ ¬ nI 9 < k) ↔ okKey k := by
  have e1 : (nI 9).toInt = 9 := rfl
  have e2 : (10 : Int32).toInt = 10 := rfl
  unfold okKey
  rw [Int32.lt_iff_toInt_lt, Int32.lt_iff_toInt_lt, Int32.lt_iff_toInt_lt, e1, e2]
  omega
theorem in_ship {S : St} {i : Int32} (hsh : s_sh S ≤ 6) : (¬ i < 0 ∧ ¬ nI (s_sh S) - 1 < i) ↔ okShip S i := by
  unfold okShip
  rw [in_lt (by omega)]
theorem in_storm {S : St} {i : Int32} (hsc : s_sc S ≤ 8) : (¬ i < 0 ∧ ¬ nI (s_sc S) - 1 < i) ↔ okStorm S i := by
  unfold okStorm
  rw [in_lt (by omega)]
/-- how many of the first i entries are marked and not less than o -/
def cmo (mk off : Nat → Int32) (o : Int32) : Nat → Nat
  | 0 => 0
  | i + 1 => cmo mk off o i + (if ¬ mk i = 0 ∧ ¬ off i < o then 1 else 0)
theorem cmo_00 {mk off : Nat → Int32} {o : Int32} {i : Nat} (h : mk i = 0) : cmo mk off o (i + 1) = cmo mk off o i := by show cmo mk off o i + _ = _; rw [if_neg (fun q => q.1 h)]; rfl
theorem cmo_0 {mk off : Nat → Int32} {o : Int32} {i : Nat} (h : off i < o) : cmo mk off o (i + 1) = cmo mk off o i := by show cmo mk off o i + _ = _; rw [if_neg (fun q => q.2 h)]; rfl
theorem cmo_1 {mk off : Nat → Int32} {o : Int32} {i : Nat} (h1 : ¬ mk i = 0) (h2 : ¬ off i < o) : cmo mk off o (i + 1) = cmo mk off o i + 1 := by show cmo mk off o i + _ = _; rw [if_pos ⟨h1, h2⟩]
/-- the offsets that are kept grow -/
def s_srt (S : St) : Prop := ∀ i j, i < j → j < s_n S → s_off S i < s_off S j
theorem pf_iff {S : St} (hs : s_srt S) {o : Int32} {i : Nat} (hi : i < s_n S) : pf (s_off S) o (s_n S) ≤ i ↔ ¬ s_off S i < o := by
  refine ⟨fun h => ?_, fun h => ?_⟩
  · have h2 := pf_stop (off := s_off S) (o := o) (n := s_n S) (by omega)
    by_cases he : pf (s_off S) o (s_n S) = i
    · rw [← he]; exact h2
    · have h3 := hs (pf (s_off S) o (s_n S)) i (by omega) hi
      rw [Int32.lt_iff_toInt_lt] at h2 h3 ⊢
      omega
  · by_cases hp : i < pf (s_off S) o (s_n S)
    · exact absurd (pf_lt hp) h
    · omega
theorem cmo_cm {S : St} (hs : s_srt S) {mk : Nat → Int32} {o : Int32} : ∀ i, i ≤ s_n S → cmo mk (s_off S) o i = cm mk (pf (s_off S) o (s_n S)) i := by
  intro i
  induction i with
  | zero => intro _; rfl
  | succ i ih =>
    intro h
    have h2 := pf_iff hs (o := o) (i := i) (by omega)
    unfold cmo cm
    rw [ih (by omega)]
    by_cases hm : mk i = 0
    · rw [if_neg (fun q => q.1 hm), if_neg (fun q => q.2 hm)]
    · by_cases ho : s_off S i < o
      · rw [if_neg (fun q => q.2 ho), if_neg (fun q => (h2.mp q.1) ho)]
      · rw [if_pos ⟨hm, ho⟩, if_pos ⟨h2.mpr ho, hm⟩]
theorem mkU_mkU (g g' mk : Nat → Int32) (n : Nat) : mkU g (mkU g' mk n) n = mkU g mk n := by
  funext i
  unfold mkU
  split <;> rfl
theorem mkU_id {ms : Nat → Int32} {n : Nat} {g : Nat → Int32} (h : ∀ i, i < n → g i = ms i) : mkU g ms n = ms := by
  funext i
  unfold mkU
  split
  · exact h i (by assumption)
  · rfl
theorem s_md_of {S : St} (hs : s_srt S) (mk : Nat → Int32) : mkU (fun i => s_ms S i + nI (cmo mk (s_off S) (s_at S i) (s_n S))) (s_ms S) (s_sh S) = s_md S mk := by
  unfold s_md
  congr 1
  funext i
  rw [cmo_cm hs (s_n S) (Nat.le_refl _)]
theorem oI_lt {o : Option Nat} (h : ∀ i, o = some i → i < 1000000) : (oI o < 0) ↔ o = none := by
  cases o with
  | none => exact ⟨fun _ => rfl, fun _ => by decide⟩
  | some i => exact ⟨fun q => absurd q (nI_pos (by have := h i rfl; omega)), fun q => by cases q⟩
theorem lpO_lt0 {key : Nat → Int32} {k : Int32} {fr t : Nat} (ht : t < 1000000) : (oI (lpO key k fr t) < 0) ↔ lpO key k fr t = none := oI_lt (fun i hi => by have := lpO_some hi; omega)
theorem lpO_nn {key : Nat → Int32} {k : Int32} {fr t : Nat} (ht : t < 1000000) (h : ¬ oI (lpO key k fr t) < 0) : ∃ i, lpO key k fr t = some i ∧ fr ≤ i ∧ i < t ∧ key i = k := by
  rcases lpO_h (rfl : lpO key k fr t = _) with h1 | h1
  · exact absurd ((lpO_lt0 ht).mpr h1) h
  · exact h1
theorem nI_m1neg {t : Nat} (ht : t < 1000000) : nI t - 1 < 0 ↔ t = 0 := by
  have h := lpO_ls (key := fun _ => 0) (k := 0) (fr := 0) (t := t) (by omega) ht
  rw [show nI 0 = 0 from rfl] at h
  rw [h]
  omega
/-- the last place in a longer stretch -/
theorem lpO_down {key : Nat → Int32} {k : Int32} {t : Nat} (ht : 0 < t) : ∀ n, t ≤ n → (lpO key k (t - 1) n ≠ none ↔ (lpO key k t n ≠ none ∨ key (t - 1) = k)) := by
  intro n hn
  refine ⟨fun h => ?_, fun h => ?_⟩
  · cases h1 : lpO key k (t - 1) n with
    | none => exact absurd h1 h
    | some i =>
      obtain ⟨g1, g2, g3⟩ := lpO_some h1
      by_cases hi : i = t - 1
      · right; rw [← hi]; exact g3
      · left
        intro h2
        exact lpO_none h2 i (by omega) g2 g3
  · intro h1
    rcases h with h | h
    · cases h2 : lpO key k t n with
      | none => exact h h2
      | some i =>
        obtain ⟨g1, g2, g3⟩ := lpO_some h2
        exact lpO_none h1 i (by omega) g2 g3
    · exact lpO_none h1 (t - 1) (Nat.le_refl _) (by omega) h
/-- which keys came by in the places from t on -/
def wasF (S : St) (t : Nat) : Nat → Int32 := fun c => if c < 10 ∧ lpO (s_key S) (nI c) t (s_n S) ≠ none then 1 else 0
theorem wasF_n (S : St) : wasF S (s_n S) = fun _ => 0 := by
  funext c
  unfold wasF
  rw [if_neg (fun q => q.2 (lpO_ge (Nat.le_refl _)))]
theorem wasF_s {S : St} {t c0 : Nat} (ht : 0 < t) (htn : t ≤ s_n S) (hc : c0 < 10) (hk : s_key S (t - 1) = nI c0) : upd (wasF S t) c0 1 = wasF S (t - 1) := by
  funext c
  unfold upd wasF
  by_cases h : c = c0
  · subst h
    rw [if_pos rfl, if_pos ⟨hc, (lpO_down ht _ htn).mpr (Or.inr hk)⟩]
  · rw [if_neg h]
    by_cases h10 : c < 10
    · have hne : ¬ s_key S (t - 1) = nI c := fun q => h ((nI_eq (by omega) (by omega)).mp (q.symm.trans hk))
      have hd := lpO_down (key := s_key S) (k := nI c) ht _ htn
      by_cases hl : lpO (s_key S) (nI c) t (s_n S) ≠ none
      · rw [if_pos ⟨h10, hl⟩, if_pos ⟨h10, hd.mpr (Or.inl hl)⟩]
      · rw [if_neg (fun q => hl q.2), if_neg (fun q => (hd.mp q.2).elim hl hne)]
    · rw [if_neg (fun q => h10 q.1), if_neg (fun q => h10 q.1)]
theorem wasF_1 {S : St} {t c0 : Nat} (h : ¬ wasF S t c0 = 0) : lpO (s_key S) (nI c0) t (s_n S) ≠ none := by
  unfold wasF at h
  by_cases q : c0 < 10 ∧ lpO (s_key S) (nI c0) t (s_n S) ≠ none
  · exact q.2
  · rw [if_neg q] at h; exact absurd rfl h
theorem wasF_0 {S : St} {t c0 : Nat} (hc : c0 < 10) (h : wasF S t c0 = 0) : lpO (s_key S) (nI c0) t (s_n S) = none := by
  unfold wasF at h
  by_cases q : c0 < 10 ∧ lpO (s_key S) (nI c0) t (s_n S) ≠ none
  · rw [if_pos q] at h; exact absurd h (by decide)
  · cases h2 : lpO (s_key S) (nI c0) t (s_n S) with
    | none => rfl
    | some i => exact absurd ⟨hc, by rw [h2]; exact fun z => by cases z⟩ q
/-- g in the places from t to n, mk elsewhere -/
def mkD (g mk : Nat → Int32) (t n : Nat) : Nat → Int32 := fun i => if t ≤ i ∧ i < n then g i else mk i
theorem mkD_n (g mk : Nat → Int32) (n : Nat) : mkD g mk n n = mk := by funext i; unfold mkD; rw [if_neg (by omega)]
theorem mkD_0 (g mk : Nat → Int32) (n : Nat) : mkD g mk 0 n = mkU g mk n := by
  funext i
  unfold mkD mkU
  by_cases h : i < n
  · rw [if_pos h, if_pos ⟨Nat.zero_le _, h⟩]
  · rw [if_neg h, if_neg (fun q => h q.2)]
theorem mkD_s {g mk : Nat → Int32} {t n : Nat} {x : Int32} (ht : 0 < t) (htn : t ≤ n) (h : g (t - 1) = x) : upd (mkD g mk t n) (t - 1) x = mkD g mk (t - 1) n := by
  funext i
  unfold upd mkD
  by_cases hi : i = t - 1
  · subst hi
    rw [if_pos rfl, if_pos ⟨Nat.le_refl _, by omega⟩, h]
  · rw [if_neg hi]
    by_cases h2 : t ≤ i ∧ i < n
    · rw [if_pos h2, if_pos ⟨by omega, h2.2⟩]
    · rw [if_neg h2, if_neg (fun q => h2 ⟨by omega, q.2⟩)]
theorem cm_d1 {mk : Nat → Int32} {t : Nat} (ht : 0 < t) (h : ¬ mk (t - 1) = 0) : ∀ n, t ≤ n → cm mk (t - 1) n = cm mk t n + 1 := by
  intro n
  induction n with
  | zero => intro q; omega
  | succ n ih =>
    intro q
    by_cases hn : t = n + 1
    · have e : t - 1 = n := by omega
      rw [e] at h ⊢
      rw [cm_s1 (Nat.le_refl _) h, cm_fr mk n n (Nat.le_refl _), hn, cm_fr mk (n + 1) (n + 1) (Nat.le_refl _)]
    · by_cases hm : mk n = 0
      · rw [cm_s0 hm, cm_s0 hm, ih (by omega)]
      · rw [cm_s1 (by omega) hm, cm_s1 (by omega) hm, ih (by omega)]
theorem cm_d0 {mk : Nat → Int32} {t : Nat} (ht : 0 < t) (h : mk (t - 1) = 0) : ∀ n, t ≤ n → cm mk (t - 1) n = cm mk t n := by
  intro n
  induction n with
  | zero => intro q; omega
  | succ n ih =>
    intro q
    by_cases hn : t = n + 1
    · have e : t - 1 = n := by omega
      rw [e] at h ⊢
      rw [cm_s0 h, cm_fr mk n n (Nat.le_refl _), hn, cm_fr mk (n + 1) (n + 1) (Nat.le_refl _)]
    · by_cases hm : mk n = 0
      · rw [cm_s0 hm, cm_s0 hm, ih (by omega)]
      · rw [cm_s1 (by omega) hm, cm_s1 (by omega) hm, ih (by omega)]
/-- what a ship knows behind d phrases more, by the last phrase of each key -/
theorem hk_kv {S : St} (hok : s_ok S) {i fr c : Nat} (hc : c < 10) {k0 : Nat → Int32} (h0 : k0 c = s_kn S i c) : ∀ d, fr + d ≤ s_n S → hk (s_key S) (s_val S) fr k0 d c = s_kv S i fr (fr + d) c := by
  intro d
  induction d with
  | zero =>
    intro _
    unfold s_kv
    rw [lpO_ge (show fr + 0 ≤ fr by omega)]
    exact h0
  | succ d ih =>
    intro h
    obtain ⟨g1, g2⟩ := hok (fr + d) (by omega)
    unfold hk upd s_kv
    rw [lpO_s (by omega), show fr + (d + 1) - 1 = fr + d by omega]
    by_cases hcc : c = (s_key S (fr + d)).toNatClampNeg
    · rw [if_pos hcc, hcc, ← g2, if_pos rfl]
    · rw [if_neg hcc, ih (by omega), if_neg (fun q => hcc ((nI_eq (by omega) (by omega)).mp ((q.symm.trans g2))))]
      rfl
theorem S_ps_on {S : St} (hon : ¬ s_on S = 0) (h : Nat) : ∀ i, S_ps S h i = S ∧ s_ph S h i = 0 := by
  intro i
  induction i with
  | zero => exact ⟨rfl, rfl⟩
  | succ i ih =>
    have e : s_dh S h i = 0 := by
      unfold s_dh mhN
      rw [if_neg hon]
      have h1 := pf_le (s_off S) (s_at S i) (s_n S)
      unfold s_to
      omega
    unfold S_ps s_ph
    rw [ih.1, ih.2, e, S_hear_0]
    exact ⟨rfl, rfl⟩
theorem s_un_m0 {S : St} {i : Nat} (h : 0 < s_lag S i) (ho : ¬ s_on S = 0) : s_un S i = -1 := by unfold s_un; rw [if_neg (by omega), if_neg ho]
theorem s_un_m1 {S : St} {i : Nat} (hq : 1 ≤ pN S i) (h : ¬ 0 < s_lag S i ∨ s_on S = 0) : s_un S i = nI ((s_lag S i + pN S i - 1) / pN S i) := by
  unfold s_un
  by_cases hl : s_lag S i = 0
  · rw [if_pos hl, hl, Nat.zero_add, Nat.div_eq_of_lt (by omega)]
    rfl
  · rw [if_neg hl]
    rcases h with h | h
    · omega
    · rw [if_pos h]
theorem fb_m {S : St} {k b : Nat} (h : s_fb S k = some b) : b < k := by
  revert b
  induction k with
  | zero => intro b h; cases h
  | succ k ih =>
    intro b h
    unfold s_fb at h
    cases hb : s_fb S k with
    | none => rw [hb] at h; cases h; omega
    | some z =>
      rw [hb] at h
      have := ih hb
      dsimp only at h
      split at h <;> (cases h; omega)
theorem fb_none {S : St} {k : Nat} (h : s_fb S k = none) : s_fb S (k + 1) = some k := by unfold s_fb; rw [h]
theorem fb_1 {S : St} {k b : Nat} (h : s_fb S k = some b) (hl : s_lag S b < s_lag S k) : s_fb S (k + 1) = some k := by unfold s_fb; rw [h]; exact if_pos hl
theorem fb_0 {S : St} {k b : Nat} (h : s_fb S k = some b) (hl : ¬ s_lag S b < s_lag S k) : s_fb S (k + 1) = s_fb S k := by rw [h]; unfold s_fb; rw [h]; exact if_neg hl
theorem ms_ms {E : gE} {b : Nat → Nat} {S : St} {th : Int32} {mk : Nat → Int32} {F : va_W} (v : Nat → Int32) : (mW E b S th mk ++ F).set 10 (b 10, .inl (eI E, 6, .inl v)) = mW E b (S_ms S v) th mk ++ F := rfl
theorem ms_at {E : gE} {b : Nat → Nat} {S : St} {th : Int32} {mk : Nat → Int32} {F : va_W} (v : Nat → Int32) : (mW E b S th mk ++ F).set 8 (b 8, .inl (eI E, 6, .inl v)) = mW E b (S_at S v) th mk ++ F := rfl
theorem ms_hd {E : gE} {b : Nat → Nat} {S : St} {th : Int32} {mk : Nat → Int32} {F : va_W} (v : Nat → Int32) : (mW E b S th mk ++ F).set 9 (b 9, .inl (eI E, 6, .inl v)) = mW E b (S_hd S v) th mk ++ F := rfl
theorem ms_kn {E : gE} {b : Nat → Nat} {S : St} {th : Int32} {mk : Nat → Int32} {F : va_W} (v : Nat → Nat → Int32) : (mW E b S th mk ++ F).set 11 (b 11, .inl (eI E, 60, .inl (mKn v))) = mW E b (S_kn S v) th mk ++ F := rfl
