-- WHAT IS TOLD OF THE LOG
theorem pf_at {S : St} (hs : s_srt S) {k : Nat} (hk : k < s_n S) : pf (s_off S) (s_off S k) (s_n S) = k := by
  have h1 := (pf_iff hs (o := s_off S k) hk).mpr (by rw [Int32.lt_iff_toInt_lt]; omega)
  by_cases h2 : pf (s_off S) (s_off S k) (s_n S) < k
  · have h3 := pf_stop (off := s_off S) (o := s_off S k) (n := s_n S) (by omega)
    exact absurd (hs _ k h2 hk) h3
  · omega
theorem s_po_at {S : St} (hs : s_srt S) {k : Nat} (hk : k < s_n S) : s_po S (s_off S k) = some k := by
  have e := pf_at hs hk
  rw [s_po_1 (by rw [e]; exact hk) (by rw [e]), e]
theorem s_ka_at {S : St} (hs : s_srt S) {k : Nat} (hk : k < s_n S) (f : Nat → Int32) : s_ka S f (s_off S k) = f k := by unfold s_ka; rw [s_po_at hs hk]
theorem s_kp_at {S : St} (hs : s_srt S) {k : Nat} (hk : k < s_n S) : (if s_po S (s_off S k) = none then (0 : Int32) else 1) = 1 := if_neg (by rw [s_po_at hs hk]; exact fun q => by cases q)
def loT (S : St) (c k : Nat) : Int32 := match lpO (s_key S) (nI c) 0 k with | none => -1 | some i => s_off S i
theorem loT_0 (S : St) (c : Nat) : loT S c 0 = -1 := rfl
theorem loT_s {S : St} {lf : Nat → Int32} {k z : Nat} (hl : ∀ c, c < 10 → lf c = loT S c k) (hz : z < 10) (hk : s_key S k = nI z) : ∀ c, c < 10 → upd lf z (s_off S k) c = loT S c (k + 1) := by
  intro c hc
  by_cases h : c = z
  · rw [h, upd_at]
    unfold loT lpO
    rw [if_pos (Nat.zero_le _), if_pos hk]
  · rw [upd, if_neg h, hl c hc]
    have hne : ¬ s_key S k = nI c := fun q => h ((nI_eq (by omega) (by omega)).mp (q.symm.trans hk))
    unfold loT
    rw [show lpO (s_key S) (nI c) 0 (k + 1) = lpO (s_key S) (nI c) 0 k by rw [lpO, if_pos (Nat.zero_le _), if_neg hne]]
theorem cnt_up {f g : Nat → Int32} {m k z : Nat} (hm : m ≤ 1000) (hl : ∀ c, c < m → g c = nI (cnt f (nI c) k)) (hz : z < m) (hk : f k = nI z) : ∀ c, c < m → upd g z (g z + 1) c = nI (cnt f (nI c) (k + 1)) := by
  intro c hc
  by_cases h : c = z
  · rw [h, upd_at, hl z hz, cnt_s1 hk, nI_1]
  · rw [upd, if_neg h, hl c hc, cnt_s0 (fun q => h ((nI_eq (by omega) (by omega)).mp (q.symm.trans hk)))]
theorem cnt_neg {f g : Nat → Int32} {m k : Nat} (hm : m ≤ 1000) (hl : ∀ c, c < m → g c = nI (cnt f (nI c) k)) (hk : f k < 0) : ∀ c, c < m → g c = nI (cnt f (nI c) (k + 1)) := by
  intro c hc
  rw [hl c hc, cnt_s0 (fun q => by rw [q] at hk; exact nI_pos (by omega) hk)]
set_option maxRecDepth 100000 in
theorem ml_eqs : ∀ i : Nat, i < 289 → ∀ n : Nat, n < 7 → 0 < n → FP.dcmp (FP.ddiv (FP.i2d (nI i)) (FP.i2d (nI n))) (FP.ddiv (FP.i2d (nI i)) (FP.i2d (nI n))) = some .eq := by decide +kernel
theorem ml_c0 {S : St} (h : s_sh S = 0) : Op.cmpValue (FP.dcmp (s_ml S) FP.dconst0) .l = 0 := by
  unfold s_ml
  rw [if_pos h]
  decide +kernel
theorem ml_c1 {S : St} (h : ¬ s_sh S = 0) (hn : s_n S ≤ 48) (hsh : s_sh S ≤ 6) : Op.cmpValue (FP.dcmp (s_ml S) (FP.ddiv (FP.i2d (nI (s_sl S (s_sh S)))) (FP.i2d (nI (s_sh S))))) .l = 0 := by
  have h1 := s_sl_le hn (s_sh S)
  unfold s_ml
  rw [if_neg h, ml_eqs _ (by omega) _ (by omega) (by omega)]
  rfl
theorem okKey_nI {c : Nat} (h : c < 10) : okKey (nI c) := ⟨nI_pos (by omega), by have := (nI_ltI (a := c) (b := 10) (by omega) (by omega)).mpr h; exact this⟩
theorem okStorm_nI {S : St} {c : Nat} (hsc : s_sc S ≤ 8) (h : c < s_sc S) : okStorm S (nI c) := ⟨nI_pos (by omega), (nI_ltI (by omega) (by omega)).mpr h⟩
theorem okShip_nI {S : St} {c : Nat} (hsh : s_sh S ≤ 6) (h : c < s_sh S) : okShip S (nI c) := ⟨nI_pos (by omega), (nI_ltI (by omega) (by omega)).mpr h⟩
theorem fb_some {S : St} {k : Nat} (h : ¬ oI (s_fb S k) < 0) (hk : k ≤ 6) : ∃ b, s_fb S k = some b ∧ b < k := by
  cases hb : s_fb S k with
  | none => rw [hb] at h; exact absurd (by decide) h
  | some b => exact ⟨b, rfl, fb_m hb⟩
theorem fb_neg {S : St} {k : Nat} (h : oI (s_fb S k) < 0) (hk : k ≤ 6) : s_fb S (k + 1) = some k := by
  cases hb : s_fb S k with
  | none => exact fb_none hb
  | some b => rw [hb] at h; have := fb_m hb; exact absurd h (nI_pos (by omega))
