abbrev okKey (k : Int32) : Prop := ¬ k < 0 ∧ k < 10
abbrev okVal (v : Int32) : Prop := ¬ v < -999 ∧ ¬ 999 < v
abbrev okHours (h : Int32) : Prop := ¬ h < 1 ∧ ¬ 60 < h
abbrev okPace (q : Int32) : Prop := ¬ q < 1 ∧ ¬ 5 < q
abbrev okOff (S : St) (o : Int32) : Prop := ¬ o < 0 ∧ ¬ s_nx S < o
abbrev okStorm (S : St) (x : Int32) : Prop := ¬ x < 0 ∧ x < nI (s_sc S)
abbrev okShip (S : St) (i : Int32) : Prop := ¬ i < 0 ∧ i < nI (s_sh S)
abbrev xIAE : String := "java/lang/IllegalArgumentException"
abbrev xISE : String := "java/lang/IllegalStateException"
abbrev xIOE : String := "java/lang/IndexOutOfBoundsException"
theorem okNat {x : Int32} {n : Nat} (hn : n < 1000000) (h0 : ¬ x < 0) (h : x < nI n) : x.toNatClampNeg < n ∧ x = nI x.toNatClampNeg := by
  obtain ⟨j, hj, rfl⟩ := nI_of h0
  rw [nI_ltI hj (by omega)] at h
  rw [nI_clamp hj]
  exact ⟨h, rfl⟩
theorem cpF_congr {mk mk' f : Nat → Int32} : ∀ n, (∀ i, i < n → mk i = mk' i) → cpF mk f n = cpF mk' f n ∧ cpN mk n = cpN mk' n := by
  intro n
  induction n with
  | zero => intro _; exact ⟨rfl, rfl⟩
  | succ n ih =>
    intro h
    obtain ⟨h1, h2⟩ := ih (fun i hi => h i (by omega))
    have h3 := h n (by omega)
    by_cases hz : mk' n = 0
    · have hz2 : mk n = 0 := h3.trans hz
      rw [cf_s1 hz, cf_s1 hz2, cp_s1 hz, cp_s1 hz2, h1, h2]
      exact ⟨rfl, rfl⟩
    · have hz2 : ¬ mk n = 0 := fun q => hz (h3.symm.trans q)
      rw [cf_s0 hz, cf_s0 hz2, cp_s0 hz, cp_s0 hz2, h1, h2]
      exact ⟨rfl, rfl⟩
theorem cm_congr {mk mk' : Nat → Int32} {fr : Nat} : ∀ n, (∀ i, i < n → mk i = mk' i) → cm mk fr n = cm mk' fr n := by
  intro n
  induction n with
  | zero => intro _; rfl
  | succ n ih =>
    intro h
    unfold cm
    rw [ih (fun i hi => h i (by omega)), h n (by omega)]
theorem cpN_lt {mk : Nat → Int32} : ∀ n i, i < n → ¬ mk i = 0 → cpN mk n < n := by
  intro n
  induction n with
  | zero => intro i h; omega
  | succ n ih =>
    intro i h1 h2
    have hle := cpN_le mk n
    by_cases hi : i = n
    · subst hi; rw [cp_s0 h2]; omega
    · have h3 := ih i (by omega) h2
      by_cases hm : mk n = 0
      · rw [cp_s1 hm]; omega
      · rw [cp_s0 hm]; omega
/-- what each ship missed behind a drop of what is marked -/
def s_md (S : St) (g : Nat → Int32) : Nat → Int32 := mkU (fun i => s_ms S i + nI (cm g (pf (s_off S) (s_at S i) (s_n S)) (s_n S))) (s_ms S) (s_sh S)
abbrev S_drop (S : St) (g : Nat → Int32) : St := S_rem (S_ms S (s_md S g)) g
theorem S_drop_congr {S : St} {g g' : Nat → Int32} (h : ∀ i, i < s_n S → g i = g' i) : S_drop S g = S_drop S g' := by
  have e1 := fun f => (cpF_congr (mk := g) (mk' := g') (f := f) (s_n S) h).1
  have e2 := (cpF_congr (mk := g) (mk' := g') (f := s_off S) (s_n S) h).2
  have e3 : s_md S g = s_md S g' := by
    unfold s_md
    congr 1
    funext i
    rw [cm_congr (s_n S) h]
  unfold S_drop S_rem
  show mkS (cpF g (s_off S) (s_n S)) (cpF g (s_key S) (s_n S)) (cpF g (s_val S) (s_n S)) (cpF g (s_sto S) (s_n S)) (cpN g (s_n S)) (s_nx S) (s_dr S + nI (s_n S - cpN g (s_n S))) _ _ _ _ _ _ _ _ (s_md S g) _ = mkS (cpF g' (s_off S) (s_n S)) (cpF g' (s_key S) (s_n S)) (cpF g' (s_val S) (s_n S)) (cpF g' (s_sto S) (s_n S)) (cpN g' (s_n S)) (s_nx S) (s_dr S + nI (s_n S - cpN g' (s_n S))) _ _ _ _ _ _ _ _ (s_md S g') _
  rw [e1, e1, e1, e1, e2, e3]
/-- saying a phrase: room, the storm's number, the phrase -/
abbrev S_said (S : St) (v : Nat → Int32) : St := mkS (s_off S) (s_key S) (s_val S) (s_sto S) (s_n S) (s_nx S) (s_dr S) (s_hr S) (s_sc S) (s_on S) v (s_sh S) (s_pc S) (s_at S) (s_hd S) (s_ms S) (s_kn S)
def S_room (S : St) : St := if s_n S < 48 then S else S_drop S gFirst
def S_cntd (S : St) : St := if s_on S = 0 then S else S_said S (upd (s_said S) (s_sc S - 1) (s_said S (s_sc S - 1) + 1))
def s_tag (S : St) : Int32 := if s_on S = 0 then -1 else nI (s_sc S - 1)
def S_spk (S : St) (k v : Int32) : St := S_app (S_cntd (S_room S)) k v (s_tag S)
def mk_spk (S : St) (mk : Nat → Int32) : Nat → Int32 := if s_n S < 48 then mk else mkU gFirst mk (s_n S)
theorem S_room_n {S : St} (hn : s_n S ≤ 48) : s_n (S_room S) < 48 := by
  unfold S_room
  split
  · assumption
  · have := cpN_lt (mk := gFirst) (s_n S) 0 (by omega) (by decide)
    show cpN gFirst (s_n S) < 48
    omega
def s_lag (S : St) (i : Nat) : Nat := s_n S - pf (s_off S) (s_at S i) (s_n S)
def mhN (S : St) (h q : Nat) : Nat := if s_on S = 0 then h * q else 0
abbrev pN (S : St) (i : Nat) : Nat := (s_pc S i).toNatClampNeg
/-- the paces of the ships count, 1 to 5 -/
def s_okp (S : St) : Prop := ∀ i, i < s_sh S → 1 ≤ pN S i ∧ pN S i ≤ 5 ∧ s_pc S i = nI (pN S i)
theorem nI_min {x y : Nat} (hx : x < 1000000) (hy : y < 1000000) : (if nI y < nI x then nI y else nI x) = nI (min x y) := by
  by_cases h : y < x
  · rw [if_pos ((nI_ltI (by omega) (by omega)).mpr h), Nat.min_eq_right (by omega)]
  · rw [if_neg (fun q => h ((nI_ltI (by omega) (by omega)).mp q)), Nat.min_eq_left (by omega)]
/-- how far a ship hears, with so many phrases -/
def s_to (S : St) (i q : Nat) : Nat := min (s_n S) (pf (s_off S) (s_at S i) (s_n S) + q)
theorem s_to_le (S : St) (i q : Nat) : s_to S i q ≤ s_n S := Nat.min_le_left _ _
theorem s_to_ge (S : St) (i q : Nat) : pf (s_off S) (s_at S i) (s_n S) ≤ s_to S i q := by unfold s_to; have := pf_le (s_off S) (s_at S i) (s_n S); omega
/-- ship i has heard d phrases from its place on -/
def S_hear (S : St) (i d : Nat) : St := mkS (s_off S) (s_key S) (s_val S) (s_sto S) (s_n S) (s_nx S) (s_dr S) (s_hr S) (s_sc S) (s_on S) (s_said S) (s_sh S) (s_pc S) (if d = 0 then s_at S else upd (s_at S) i (s_off S (pf (s_off S) (s_at S i) (s_n S) + d - 1) + 1)) (upd (s_hd S) i (s_hd S i + nI d)) (s_ms S) (va_up (s_kn S) i (hk (s_key S) (s_val S) (pf (s_off S) (s_at S i) (s_n S)) (s_kn S i) d))
theorem upd_self (f : Nat → Int32) (i : Nat) : upd f i (f i) = f := by
  funext j
  unfold upd
  split
  · rename_i h; rw [h]
  · rfl
theorem upd_upd (f : Nat → Int32) (i : Nat) (x y : Int32) : upd (upd f i x) i y = upd f i y := by
  funext j
  unfold upd
  split <;> rfl
theorem upd_at (f : Nat → Int32) (i : Nat) (x : Int32) : upd f i x i = x := by simp [upd]
theorem vup_self {α : Type} (f : Nat → α) (i : Nat) : va_up f i (f i) = f := by
  funext j
  unfold va_up
  split
  · rename_i h; rw [h]
  · rfl
theorem vup_at {α : Type} (f : Nat → α) (i : Nat) (x : α) : va_up f i x i = x := by simp [va_up]
theorem S_hear_0 (S : St) (i : Nat) : S_hear S i 0 = S := by
  unfold S_hear
  rw [show hk (s_key S) (s_val S) (pf (s_off S) (s_at S i) (s_n S)) (s_kn S i) 0 = s_kn S i from rfl, vup_self, nI_0, Int32.add_zero, upd_self]
  rfl
theorem hear_kn {S : St} {i d fr : Nat} : va_up (va_up (s_kn S) i (hk (s_key S) (s_val S) fr (s_kn S i) d)) i (upd (va_up (s_kn S) i (hk (s_key S) (s_val S) fr (s_kn S i) d) i) (s_key S (fr + d)).toNatClampNeg (s_val S (fr + d))) = va_up (s_kn S) i (hk (s_key S) (s_val S) fr (s_kn S i) (d + 1)) := by
  rw [vup_at, bx_uu]
  rfl
theorem hear_at {S : St} {i d fr : Nat} : upd (if d = 0 then s_at S else upd (s_at S) i (s_off S (fr + d - 1) + 1)) i (s_off S (fr + d) + 1) = if d + 1 = 0 then s_at S else upd (s_at S) i (s_off S (fr + (d + 1) - 1) + 1) := by
  rw [if_neg (Nat.succ_ne_zero d), show fr + (d + 1) - 1 = fr + d by omega]
  split
  · rfl
  · rw [upd_upd]
theorem hear_hd {S : St} {i d : Nat} : upd (upd (s_hd S) i (s_hd S i + nI d)) i (upd (s_hd S) i (s_hd S i + nI d) i + 1) = upd (s_hd S) i (s_hd S i + nI (d + 1)) := by
  rw [upd_upd, upd_at, Int32.add_assoc, nI_1]
/-- hours going by: the ships hear one behind the other -/
def s_dh (T : St) (h i : Nat) : Nat := s_to T i (mhN T h (pN T i)) - pf (s_off T) (s_at T i) (s_n T)
def S_ps (S : St) (h : Nat) : Nat → St
  | 0 => S
  | i + 1 => S_hear (S_ps S h i) i (s_dh (S_ps S h i) h i)
def s_ph (S : St) (h : Nat) : Nat → Nat
  | 0 => 0
  | i + 1 => s_ph S h i + s_dh (S_ps S h i) h i
theorem S_ps_keep (S : St) (h : Nat) : ∀ i, s_off (S_ps S h i) = s_off S ∧ s_key (S_ps S h i) = s_key S ∧ s_n (S_ps S h i) = s_n S ∧ s_sh (S_ps S h i) = s_sh S ∧ s_pc (S_ps S h i) = s_pc S ∧ s_on (S_ps S h i) = s_on S ∧ s_val (S_ps S h i) = s_val S := by
  intro i
  induction i with
  | zero => exact ⟨rfl, rfl, rfl, rfl, rfl, rfl, rfl⟩
  | succ i ih => exact ih
theorem s_dh_le (T : St) (h i : Nat) : s_dh T h i ≤ s_n T := by unfold s_dh; have := s_to_le T i (mhN T h (pN T i)); omega
theorem s_ph_le (S : St) (h : Nat) : ∀ i, s_ph S h i ≤ i * s_n S := by
  intro i
  induction i with
  | zero => exact Nat.zero_le _
  | succ i ih =>
    have h1 := s_dh_le (S_ps S h i) h i
    rw [(S_ps_keep S h i).2.2.1] at h1
    unfold s_ph
    rw [Nat.succ_mul]
    omega
/-- in how many hours a ship's lag is 0 -/
def s_un (S : St) (i : Nat) : Int32 := if s_lag S i = 0 then 0 else if s_on S = 0 then nI ((s_lag S i + pN S i - 1) / pN S i) else -1
theorem s_lag_le (S : St) (i : Nat) : s_lag S i ≤ s_n S := Nat.sub_le _ _
theorem ceil_is {x q h : Nat} (hq : 0 < q) (h1 : x ≤ h * q) (h2 : ∀ g, g < h → g * q < x) : (x + q - 1) / q = h := by
  cases h with
  | zero =>
    have : x = 0 := by omega
    subst this
    exact Nat.div_eq_of_lt (by omega)
  | succ h =>
    have h3 := h2 h (by omega)
    refine Nat.div_eq_of_lt_le ?_ ?_
    · rw [Nat.succ_mul]; omega
    · show x + q - 1 < (h + 1 + 1) * q
      rw [Nat.succ_mul]; omega
theorem s_un_hit {S : St} {i h : Nat} (hq : 1 ≤ pN S i) (h1 : s_lag S i ≤ mhN S h (pN S i)) (h2 : ∀ g, g < h → mhN S g (pN S i) < s_lag S i) : s_un S i = nI h := by
  unfold s_un
  unfold mhN at h1 h2
  by_cases ho : s_on S = 0
  · simp only [ho, if_true] at h1 h2 ⊢
    by_cases hl : s_lag S i = 0
    · have : h = 0 := by
        cases h with
        | zero => rfl
        | succ h => have := h2 0 (by omega); omega
      rw [if_pos hl, this]
      rfl
    · rw [if_neg hl, ceil_is (by omega) h1 h2]
  · simp only [ho, if_false] at h1 h2 ⊢
    have hl : s_lag S i = 0 := by omega
    have : h = 0 := by
      cases h with
      | zero => rfl
      | succ h => have := h2 0 (by omega); omega
    rw [if_pos hl, this]
    rfl
theorem s_un_none {S : St} {i : Nat} (hn : s_n S ≤ 48) (hq : 1 ≤ pN S i) (h2 : ∀ g, g < 61 → mhN S g (pN S i) < s_lag S i) : s_un S i = -1 := by
  unfold s_un
  unfold mhN at h2
  have hll := s_lag_le S i
  by_cases ho : s_on S = 0
  · simp only [ho, if_true] at h2 ⊢
    have := h2 60 (by omega)
    omega
  · simp only [ho, if_false] at h2 ⊢
    have := h2 0 (by omega)
    rw [if_neg (by omega)]
def s_pw (S : St) (i h : Nat) : Int32 := if s_lag S i = 0 then 1 else if s_on S = 0 then (if 5 < (s_lag S i + h - 1) / h then -1 else nI ((s_lag S i + h - 1) / h)) else -1
theorem s_pw_hit {S : St} {i h q : Nat} (hh : 1 ≤ h) (hq1 : 1 ≤ q) (hq5 : q ≤ 5) (h1 : s_lag S i ≤ mhN S h q) (h2 : ∀ g, 1 ≤ g → g < q → mhN S h g < s_lag S i) : s_pw S i h = nI q := by
  unfold s_pw
  unfold mhN at h1 h2
  by_cases ho : s_on S = 0
  · simp only [ho, if_true] at h1 h2 ⊢
    by_cases hl : s_lag S i = 0
    · have : q = 1 := by
        by_cases hq : q = 1
        · exact hq
        · have := h2 1 (by omega) (by omega); omega
      rw [if_pos hl, this]
      rfl
    · have hc : (s_lag S i + h - 1) / h = q := ceil_is (by omega) (by rw [Nat.mul_comm]; exact h1) (fun g hg => by
        by_cases hg0 : g = 0
        · subst hg0; omega
        · rw [Nat.mul_comm]; exact h2 g (by omega) hg)
      rw [if_neg hl, hc, if_neg (by omega)]
  · simp only [ho, if_false] at h1 h2 ⊢
    have hl : s_lag S i = 0 := by omega
    have : q = 1 := by
      by_cases hq : q = 1
      · exact hq
      · have := h2 1 (by omega) (by omega); omega
    rw [if_pos hl, this]
    rfl
theorem s_pw_none {S : St} {i h : Nat} (hh : 1 ≤ h) (h2 : ∀ g, 1 ≤ g → g < 6 → mhN S h g < s_lag S i) : s_pw S i h = -1 := by
  unfold s_pw
  unfold mhN at h2
  by_cases ho : s_on S = 0
  · simp only [ho, if_true] at h2 ⊢
    have h3 := h2 5 (by omega) (by omega)
    rw [if_neg (by omega), if_pos]
    rw [Nat.lt_div_iff_mul_lt (by omega), Nat.mul_comm]
    omega
  · simp only [ho, if_false] at h2 ⊢
    have := h2 1 (by omega) (by omega)
    rw [if_neg (by omega)]
/-- in how many keys a ship errs -/
def s_kv (S : St) (i fr to : Nat) (c : Nat) : Int32 := match lpO (s_key S) (nI c) fr to with | none => s_kn S i c | some j => s_val S j
def s_er (S : St) (i fr to : Nat) : Nat → Nat
  | 0 => 0
  | c + 1 => s_er S i fr to c + (if s_kv S i fr to c = s_wv S (nI c) then 0 else 1)
theorem s_er_1 {S : St} {i fr to c : Nat} (h : ¬ s_kv S i fr to c = s_wv S (nI c)) : s_er S i fr to (c + 1) = s_er S i fr to c + 1 := by show s_er S i fr to c + _ = _; rw [if_neg h]
theorem s_er_0 {S : St} {i fr to c : Nat} (h : s_kv S i fr to c = s_wv S (nI c)) : s_er S i fr to (c + 1) = s_er S i fr to c := by show s_er S i fr to c + _ = _; rw [if_pos h]; rfl
theorem s_er_le (S : St) (i fr to : Nat) : ∀ c, s_er S i fr to c ≤ c := by
  intro c
  induction c with
  | zero => exact Nat.le_refl _
  | succ c ih => unfold s_er; split <;> omega
abbrev s_ea (S : St) (i q : Nat) : Nat := s_er S i (pf (s_off S) (s_at S i) (s_n S)) (s_to S i q) 10
/-- the ship that lags the most -/
def s_fb (S : St) : Nat → Option Nat
  | 0 => none
  | i + 1 => match s_fb S i with
    | none => some i
    | some b => if s_lag S b < s_lag S i then some i else some b
def s_gl (S : St) (i : Nat) : Int32 := match s_fb S i with | none => -1 | some b => nI (s_lag S b)
theorem s_fb_1 {S : St} {i : Nat} (hn : s_n S ≤ 48) (h : s_gl S i < nI (s_lag S i)) : s_fb S (i + 1) = some i := by
  unfold s_gl at h
  unfold s_fb
  cases hb : s_fb S i with
  | none => rfl
  | some b =>
    rw [hb] at h
    have h1 := s_lag_le S b
    have h2 := s_lag_le S i
    have h3 : s_lag S b < s_lag S i := (nI_ltI (by omega) (by omega)).mp h
    show (if _ then _ else _) = _
    rw [if_pos h3]
theorem s_fb_0 {S : St} {i : Nat} (hn : s_n S ≤ 48) (h : ¬ s_gl S i < nI (s_lag S i)) : s_fb S (i + 1) = s_fb S i := by
  unfold s_gl at h
  rw [s_fb]
  have h2 := s_lag_le S i
  cases hb : s_fb S i with
  | none =>
    rw [hb] at h
    refine absurd ?_ h
    show (-1 : Int32) < nI (s_lag S i)
    rw [Int32.lt_iff_toInt_lt, nI_toInt (by omega)]
    have : (-1 : Int32).toInt = -1 := rfl
    omega
  | some b =>
    rw [hb] at h
    have h1 := s_lag_le S b
    have h3 : ¬ s_lag S b < s_lag S i := fun q => h ((nI_ltI (by omega) (by omega)).mpr q)
    show (if _ then _ else _) = _
    rw [if_neg h3]
theorem s_gl_1 {S : St} {i : Nat} (hb : s_fb S (i + 1) = some i) : s_gl S (i + 1) = nI (s_lag S i) := by unfold s_gl; rw [hb]
theorem s_gl_0 {S : St} {i : Nat} (hb : s_fb S (i + 1) = s_fb S i) : s_gl S (i + 1) = s_gl S i := by unfold s_gl; rw [hb]
def s_sl (S : St) : Nat → Nat
  | 0 => 0
  | i + 1 => s_sl S i + s_lag S i
theorem s_sl_le {S : St} (hn : s_n S ≤ 48) : ∀ i, s_sl S i ≤ 48 * i := by
  intro i
  induction i with
  | zero => exact Nat.le_refl _
  | succ i ih => unfold s_sl; have := s_lag_le S i; omega
def s_ml (S : St) : UInt64 := if s_sh S = 0 then FP.dconst0 else FP.ddiv (FP.i2d (nI (s_sl S (s_sh S)))) (FP.i2d (nI (s_sh S)))
def s_wc (S : St) : Nat := cm (s_cm S) 0 (s_n S)
def s_wm (S : St) (i : Nat) : Nat := cm (s_cm S) (pf (s_off S) (s_at S i) (s_n S)) (s_n S)
def mx (d : Int64) (x : Int32) : Int64 := d * 31 + x.toInt64
def dKeys (S : St) (d : Int64) : Nat → Int64
  | 0 => d
  | c + 1 => mx (mx (mx (dKeys S d c) (s_lo S (nI c))) (s_wv S (nI c))) (nI (cnt (s_key S) (nI c) (s_n S)))
def dStorms (S : St) (d : Int64) : Nat → Int64
  | 0 => d
  | c + 1 => mx (mx (dStorms S d c) (s_said S c)) (nI (cnt (s_sto S) (nI c) (s_n S)))
def dShips (S : St) (d : Int64) : Nat → Int64
  | 0 => d
  | i + 1 => mx (mx (mx (mx (mx (mx (mx (dShips S d i) (s_at S i)) (nI (s_lag S i))) (s_hd S i)) (s_ms S i)) (nI (s_ea S i 0))) (s_un S i)) (nI (s_wm S i))
def s_first (S : St) : Int32 := if s_n S = 0 then -1 else s_off S 0
def s_d0 (S : St) : Int64 := mx (mx (mx (mx (mx (mx (mx (mx (mx (mx 1787 (s_hr S)) (nI (s_n S))) (s_nx S)) (s_first S)) (s_dr S)) (nI (s_sc S))) (if s_on S = 0 then 0 else 1)) (nI (s_sh S))) (oI (s_fb S (s_sh S)))) (nI (s_wc S))
def s_dg (S : St) : Int64 := dShips S (dStorms S (dKeys S (s_d0 S) 10) (s_sc S)) (s_sh S)
