/-- what holds of every state that calls lead to, as far as the walks need it -/
def s_inv (S : St) : Prop := s_n S ≤ 48 ∧ s_sh S ≤ 6 ∧ s_sc S ≤ 8 ∧ (¬ s_on S = 0 → 1 ≤ s_sc S) ∧ (s_on S = 0 ∨ s_on S = 1) ∧ s_ok S ∧ s_okp S ∧ pf (s_off S) 0 (s_n S) = 0
abbrev S_storm (S : St) (on : Int32) (sc : Nat) : St := mkS (s_off S) (s_key S) (s_val S) (s_sto S) (s_n S) (s_nx S) (s_dr S) (s_hr S) sc on (s_said S) (s_sh S) (s_pc S) (s_at S) (s_hd S) (s_ms S) (s_kn S)
abbrev S_ship (S : St) (q o : Int32) : St := mkS (s_off S) (s_key S) (s_val S) (s_sto S) (s_n S) (s_nx S) (s_dr S) (s_hr S) (s_sc S) (s_on S) (s_said S) (s_sh S + 1) (upd (s_pc S) (s_sh S) q) (upd (s_at S) (s_sh S) o) (s_hd S) (s_ms S) (s_kn S)
abbrev S_hrs (S : St) (v : Int32) : St := mkS (s_off S) (s_key S) (s_val S) (s_sto S) (s_n S) (s_nx S) (s_dr S) v (s_sc S) (s_on S) (s_said S) (s_sh S) (s_pc S) (s_at S) (s_hd S) (s_ms S) (s_kn S)
abbrev S_pass (S : St) (h : Int32) : St := S_hrs (S_ps S h.toNatClampNeg (s_sh S)) (s_hr S + h)
theorem okHours_n {h : Int32} (hk : okHours h) : 1 ≤ h.toNatClampNeg ∧ h.toNatClampNeg ≤ 60 ∧ h = nI h.toNatClampNeg := by
  obtain ⟨h1, h2⟩ := hk
  have h3 : ¬ h < 0 := by rw [Int32.lt_iff_toInt_lt] at h1 ⊢; have e0 : (0 : Int32).toInt = 0 := rfl; have e1 : (1 : Int32).toInt = 1 := rfl; omega
  obtain ⟨j, hj, rfl⟩ := nI_of h3
  rw [nI_clamp hj]
  rw [Int32.lt_iff_toInt_lt, nI_toInt hj] at h1 h2
  have e1 : (1 : Int32).toInt = 1 := rfl
  have e2 : (60 : Int32).toInt = 60 := rfl
  exact ⟨by omega, by omega, rfl⟩
theorem okKey_n {k : Int32} (hk : okKey k) : k.toNatClampNeg < 10 ∧ k = nI k.toNatClampNeg := okNat (n := 10) (by omega) hk.1 hk.2
def s_ka (S : St) (f : Nat → Int32) (o : Int32) : Int32 := match s_po S o with | none => 0 | some i => f i
theorem s_po_ne {S : St} {o : Int32} (h : s_po S o ≠ none) : ∃ i, s_po S o = some i ∧ i < s_n S := by
  cases hp : s_po S o with
  | none => exact absurd hp h
  | some i => exact ⟨i, rfl, s_po_lt hp⟩
theorem cpN_mkU (g mk : Nat → Int32) (n : Nat) : cpN (mkU g mk n) n = cpN g n := (cpF_congr (f := g) n (fun _ hi => mkU_at hi)).2
theorem cm_mkU (g mk : Nat → Int32) (fr n : Nat) : cm (mkU g mk n) fr n = cm g fr n := cm_congr n (fun _ hi => mkU_at hi)
theorem S_drop_mkU (S : St) (g mk : Nat → Int32) : S_drop S (mkU g mk (s_n S)) = S_drop S g := S_drop_congr (fun _ hi => mkU_at hi)
theorem mx_eq (d : Int64) (x : Int32) : d * 31 + x.toInt64 = mx d x := rfl
theorem mh_le {S : St} {h q : Nat} (h1 : h ≤ 60) (h2 : q ≤ 5) : mhN S h q ≤ 300 := by
  unfold mhN
  split
  · exact Nat.le_trans (Nat.mul_le_mul h1 h2) (by omega)
  · omega
theorem S_ps_hr (S : St) (h : Nat) : ∀ i, s_hr (S_ps S h i) = s_hr S := by
  intro i
  induction i with
  | zero => rfl
  | succ i ih => exact ih
set_option maxRecDepth 100000 in
theorem ml_all : ∀ i : Nat, i < 289 → ∀ n : Nat, n < 7 → 0 < n → FP.ddiv (FP.i2d (nI i)) (FP.i2d (nI n)) &&& 0x7fffffffffffffff ≤ 0x7ff0000000000000 := by decide +kernel
theorem ml_nan (i n : Nat) (hi : i ≤ 288) (h1 : 0 < n) (h2 : n ≤ 6) : vf_n64 (FP.ddiv (FP.i2d (nI i)) (FP.i2d (nI n))) := ml_all i (by omega) n (by omega) h1
