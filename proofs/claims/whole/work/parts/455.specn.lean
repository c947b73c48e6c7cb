theorem nI_max {x y : Nat} (hx : x < 1000000) (hy : y < 1000000) : (if nI x < nI y then nI y else nI x) = nI (max x y) := by
  by_cases h : x < y
  · rw [if_pos ((nI_ltI (by omega) (by omega)).mpr h), Nat.max_eq_right (by omega)]
  · rw [if_neg (fun q => h ((nI_ltI (by omega) (by omega)).mp q)), Nat.max_eq_left (by omega)]
theorem s_pw_m {S : St} {i h : Nat} (hh : 1 ≤ h) (ho : ¬ 0 < s_lag S i ∨ s_on S = 0) (h5 : max 1 ((s_lag S i + h - 1) / h) ≤ 5) : nI (max 1 ((s_lag S i + h - 1) / h)) = s_pw S i h := by
  unfold s_pw
  by_cases hl : s_lag S i = 0
  · rw [if_pos hl, hl, Nat.zero_add, Nat.div_eq_of_lt (by omega)]
    rfl
  · have hon : s_on S = 0 := by
      rcases ho with g | g
      · omega
      · exact g
    have h1 : 1 ≤ (s_lag S i + h - 1) / h := by rw [Nat.le_div_iff_mul_le (by omega)]; omega
    rw [if_neg hl, if_pos hon, if_neg (by omega), Nat.max_eq_right h1]
theorem s_pw_m5 {S : St} {i h : Nat} (hh : 1 ≤ h) (ho : ¬ 0 < s_lag S i ∨ s_on S = 0) (h5 : ¬ max 1 ((s_lag S i + h - 1) / h) ≤ 5) : (-1 : Int32) = s_pw S i h := by
  unfold s_pw
  by_cases hl : s_lag S i = 0
  · rw [hl, Nat.zero_add, Nat.div_eq_of_lt (by omega)] at h5
    omega
  · have hon : s_on S = 0 := by
      rcases ho with g | g
      · omega
      · exact g
    rw [if_neg hl, if_pos hon, if_pos (by omega)]
theorem s_pw_m0 {S : St} {i h : Nat} (hl : 0 < s_lag S i) (ho : ¬ s_on S = 0) : (-1 : Int32) = s_pw S i h := by unfold s_pw; rw [if_neg (by omega), if_neg ho]
