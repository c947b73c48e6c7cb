-- WHAT STAYS TRUE FROM CALL TO CALL
theorem nx_s9 {x : Int32} (h0 : 0 ≤ x.toInt) (h1 : x.toInt < 2147483647) : (x + 1).toInt = x.toInt + 1 := by
  rw [Int32.toInt_add, show (1 : Int32).toInt = 1 from rfl]
  exact Int.bmod_eq_of_le (by omega) (by omega)
def ky9 (k : Int32) : Prop := k.toNatClampNeg < 10 ∧ k = nI k.toNatClampNeg
/-- the log's own -/
def lgI (S : St) (B : Int) : Prop := s_n S ≤ 48 ∧ (∀ i, i < s_n S → ky9 (s_key S i)) ∧ (∀ i j, i < j → j < s_n S → (s_off S i).toInt < (s_off S j).toInt) ∧ (∀ i, i < s_n S → 0 ≤ (s_off S i).toInt ∧ (s_off S i).toInt < (s_nx S).toInt) ∧ 0 ≤ (s_nx S).toInt ∧ (s_nx S).toInt ≤ B
/-- the storms' and the ships' -/
def flI (S : St) : Prop := s_sh S ≤ 6 ∧ s_sc S ≤ 8 ∧ (¬ s_on S = 0 → 1 ≤ s_sc S) ∧ (s_on S = 0 ∨ s_on S = 1) ∧ s_okp S
def lwI (S : St) (B : Int) : Prop := lgI S B ∧ flI S
theorem pf09 {off : Nat → Int32} {n : Nat} (h : ∀ i, i < n → 0 ≤ (off i).toInt) : pf off 0 n = 0 := by
  by_cases hz : pf off 0 n = 0
  · exact hz
  · have h1 : 0 < pf off 0 n := Nat.pos_of_ne_zero hz
    have h2 := pf_lt h1
    have h3 := h 0 (by have := pf_le off 0 n; omega)
    rw [Int32.lt_iff_toInt_lt, show (0 : Int32).toInt = 0 from rfl] at h2
    omega
theorem lwI.inv {S : St} {B : Int} (h : lwI S B) : s_inv S := ⟨h.1.1, h.2.1, h.2.2.1, h.2.2.2.1, h.2.2.2.2.1, h.1.2.1, h.2.2.2.2.2, pf09 (fun i hi => (h.1.2.2.2.1 i hi).1)⟩
theorem lgI.srt {S : St} {B : Int} (h : lgI S B) : s_srt S := fun i j h1 h2 => Int32.lt_iff_toInt_lt.mpr (h.2.2.1 i j h1 h2)
theorem lgI.mono {S : St} {B B9 : Int} (h : lgI S B) (hb : B ≤ B9) : lgI S B9 := ⟨h.1, h.2.1, h.2.2.1, h.2.2.2.1, h.2.2.2.2.1, Int.le_trans h.2.2.2.2.2 hb⟩
theorem lwI.mono {S : St} {B B9 : Int} (h : lwI S B) (hb : B ≤ B9) : lwI S B9 := ⟨h.1.mono hb, h.2⟩
theorem lgI.same {S T : St} {B : Int} (h : lgI S B) (h1 : s_n T = s_n S) (h2 : s_off T = s_off S) (h3 : s_key T = s_key S) (h4 : s_nx T = s_nx S) : lgI T B := by
  unfold lgI at h ⊢
  rw [h1, h2, h3, h4]
  exact h
theorem flI.same {S T : St} (h : flI S) (h1 : s_sh T = s_sh S) (h2 : s_sc T = s_sc S) (h3 : s_on T = s_on S) (h4 : s_pc T = s_pc S) : flI T := by
  unfold flI s_okp at h ⊢
  unfold pN at h ⊢
  rw [h1, h2, h3, h4]
  exact h
/-- what a drop keeps, it keeps in order -/
theorem cp_sig (g : Nat → Int32) : ∀ n, ∃ sg : Nat → Nat, (∀ j, j < cpN g n → sg j < n) ∧ (∀ i j, i < j → j < cpN g n → sg i < sg j) ∧ ∀ (f : Nat → Int32) (j : Nat), j < cpN g n → cpF g f n j = f (sg j) := by
  intro n
  induction n with
  | zero => exact ⟨fun j => j, fun j hj => absurd hj (Nat.not_lt_zero _), fun i j _ hj => absurd hj (Nat.not_lt_zero _), fun f j hj => absurd hj (Nat.not_lt_zero _)⟩
  | succ n ih9 =>
    obtain ⟨sg, h1, h2, h3⟩ := ih9
    by_cases hm : g n = 0
    · rw [cp_s1 hm]
      refine ⟨fun j => if j = cpN g n then n else sg j, fun j hj => ?_, fun i j hij hj => ?_, fun f j hj => ?_⟩
      · by_cases e9 : j = cpN g n
        · simp [e9]
        · have := h1 j (by omega)
          simp only [if_neg e9]
          omega
      · by_cases e9 : j = cpN g n
        · have := h1 i (by omega)
          simp only [if_pos e9, if_neg (show ¬ i = cpN g n by omega)]
          omega
        · simp only [if_neg e9, if_neg (show ¬ i = cpN g n by omega)]
          exact h2 i j hij (by omega)
      · rw [cf_s1 hm]
        by_cases e9 : j = cpN g n
        · simp only [upd, if_pos e9]
          exact cpF_ge g f n n (cpN_le g n) (Nat.le_refl _)
        · simp only [upd, if_neg e9]
          exact h3 f j (by omega)
    · rw [cp_s0 hm]
      refine ⟨sg, fun j hj => ?_, h2, fun f j hj => ?_⟩
      · have := h1 j hj
        omega
      · rw [cf_s0 hm]
        exact h3 f j hj
theorem lgI.drop {S : St} {B : Int} (h : lgI S B) (g : Nat → Int32) : lgI (S_drop S g) B := by
  obtain ⟨a1, a2, a3, a4, a5, a6⟩ := h
  obtain ⟨sg, h1, h2, h3⟩ := cp_sig g (s_n S)
  have hle := cpN_le g (s_n S)
  refine ⟨show cpN g (s_n S) ≤ 48 by omega, fun i hi => ?_, fun i j hij hj => ?_, fun i hi => ?_, a5, a6⟩
  · have hi : i < cpN g (s_n S) := hi
    show ky9 (cpF g (s_key S) (s_n S) i)
    rw [h3 (s_key S) i hi]
    exact a2 _ (h1 i hi)
  · have hj : j < cpN g (s_n S) := hj
    show (cpF g (s_off S) (s_n S) i).toInt < (cpF g (s_off S) (s_n S) j).toInt
    rw [h3 (s_off S) i (by omega), h3 (s_off S) j hj]
    exact a3 _ _ (h2 i j hij hj) (h1 j hj)
  · have hi : i < cpN g (s_n S) := hi
    show 0 ≤ (cpF g (s_off S) (s_n S) i).toInt ∧ (cpF g (s_off S) (s_n S) i).toInt < (s_nx S).toInt
    rw [h3 (s_off S) i hi]
    exact a4 _ (h1 i hi)
theorem lgI.app {S : St} {B : Int} (h : lgI S B) (hn : s_n S < 48) (hB : B < 2147483647) {k : Int32} (hk9 : ky9 k) (v t : Int32) : lgI (S_app S k v t) (B + 1) := by
  obtain ⟨a1, a2, a3, a4, a5, a6⟩ := h
  have e9 := nx_s9 a5 (by omega)
  refine ⟨show s_n S + 1 ≤ 48 by omega, fun i hi => ?_, fun i j hij hj => ?_, fun i hi => ?_, ?_, ?_⟩
  · have hi : i < s_n S + 1 := hi
    show ky9 (upd (s_key S) (s_n S) k i)
    by_cases q9 : i = s_n S
    · simp only [upd, if_pos q9]; exact hk9
    · simp only [upd, if_neg q9]; exact a2 i (by omega)
  · have hj : j < s_n S + 1 := hj
    show (upd (s_off S) (s_n S) (s_nx S) i).toInt < (upd (s_off S) (s_n S) (s_nx S) j).toInt
    simp only [upd, if_neg (show ¬ i = s_n S by omega)]
    by_cases q9 : j = s_n S
    · simp only [if_pos q9]; exact (a4 i (by omega)).2
    · simp only [if_neg q9]; exact a3 i j hij (by omega)
  · have hi : i < s_n S + 1 := hi
    show 0 ≤ (upd (s_off S) (s_n S) (s_nx S) i).toInt ∧ (upd (s_off S) (s_n S) (s_nx S) i).toInt < (s_nx S + 1).toInt
    rw [e9]
    by_cases q9 : i = s_n S
    · simp only [upd, if_pos q9]; omega
    · simp only [upd, if_neg q9]; have := a4 i (by omega); omega
  · show 0 ≤ (s_nx S + 1).toInt
    omega
  · show (s_nx S + 1).toInt ≤ B + 1
    omega
theorem lgI.room {S : St} {B : Int} (h : lgI S B) : lgI (S_room S) B := by
  unfold S_room
  split
  · exact h
  · exact h.drop gFirst
theorem lgI.cntd {S : St} {B : Int} (h : lgI S B) : lgI (S_cntd S) B := by
  unfold S_cntd
  split
  · exact h
  · exact h.same rfl rfl rfl rfl
theorem S_cntd_n (S : St) : s_n (S_cntd S) = s_n S := by
  unfold S_cntd
  split <;> rfl
theorem lgI.spk {S : St} {B : Int} (h : lgI S B) (hB : B < 2147483647) {k : Int32} (hk9 : ky9 k) (v : Int32) : lgI (S_spk S k v) (B + 1) := by
  unfold S_spk
  exact h.room.cntd.app (by rw [S_cntd_n]; exact S_room_n h.1) hB hk9 v _
theorem flI.spk {S : St} (h : flI S) (k v : Int32) : flI (S_spk S k v) := by
  obtain ⟨h1, h2, h3, -, -, h6⟩ := S_spk_keep S k v
  exact h.same h3 h1 h2 h6
theorem lwI.spk {S : St} {B : Int} (h : lwI S B) (hB : B < 2147483647) {k : Int32} (hk9 : ky9 k) (v : Int32) : lwI (S_spk S k v) (B + 1) := ⟨h.1.spk hB hk9 v, h.2.spk k v⟩
theorem lwI.drop {S : St} {B : Int} (h : lwI S B) (g : Nat → Int32) : lwI (S_drop S g) B := ⟨h.1.drop g, h.2.same rfl rfl rfl rfl⟩
theorem lwI.rp {S : St} {B : Int} (h : lwI S B) (ks vs : Nat → Int32) : ∀ n, (∀ i, i < n → ky9 (ks i)) → B + n ≤ 2147483647 → lwI (S_rp S ks vs n) (B + n) := by
  intro n
  induction n with
  | zero => intro _ _; exact h.mono (by omega)
  | succ n ih9 =>
    intro h1 h2
    have h3 := ih9 (fun i hi => h1 i (by omega)) (by omega)
    exact (h3.spk (by omega) (h1 n (by omega)) (vs n)).mono (by omega)
theorem fl_mem9 (f sto : Nat → Int32) (x : Int32) (g : Nat → Int32) : ∀ n i, i < cnt sto x n → ∃ j, j < n ∧ flF f sto x g n i = f j := by
  intro n
  induction n with
  | zero => intro i hi; exact absurd hi (Nat.not_lt_zero _)
  | succ n ih9 =>
    intro i hi
    by_cases hc9 : sto n = x
    · rw [cnt_s1 hc9] at hi
      rw [fl_s1 hc9]
      by_cases q9 : i = cnt sto x n
      · exact ⟨n, by omega, by simp only [upd, if_pos q9]⟩
      · obtain ⟨j, h1, h2⟩ := ih9 i (by omega)
        exact ⟨j, by omega, by simp only [upd, if_neg q9]; exact h2⟩
    · rw [cnt_s0 hc9] at hi
      rw [fl_s0 hc9]
      obtain ⟨j, h1, h2⟩ := ih9 i hi
      exact ⟨j, by omega, h2⟩
theorem cnt_le9 (f : Nat → Int32) (x : Int32) : ∀ n, cnt f x n ≤ n := by
  intro n
  induction n with
  | zero => exact Nat.le_refl _
  | succ n ih9 =>
    by_cases hc9 : f n = x
    · rw [cnt_s1 hc9]; omega
    · rw [cnt_s0 hc9]; omega
theorem lwI.rk {S : St} {B : Int} (h : lwI S B) (x : Int32) : ∀ i, i < cnt (s_sto S) x (s_n S) → ky9 (s_rk S x i) := by
  intro i hi
  obtain ⟨j, h1, h2⟩ := fl_mem9 (s_key S) (s_sto S) x (fun _ => 0) (s_n S) i hi
  show ky9 (flF (s_key S) (s_sto S) x (fun _ => 0) (s_n S) i)
  rw [h2]
  exact h.1.2.1 j h1
theorem lwI.rpl {S : St} {B : Int} (h : lwI S B) (hB : B + 48 < 2147483647) (x : Int32) : lwI (S_rpl S x) (B + 48) := by
  have h1 := cnt_le9 (s_sto S) x (s_n S)
  have h2 := h.1.1
  exact (h.rp (s_rk S x) (s_rv S x) _ (h.rk x) (by omega)).mono (by omega)
theorem lwI.rps {S : St} {B : Int} (h : lwI S B) (hB : B + 48 < 2147483647) (x : Int32) : ∀ i, i < cnt (s_sto S) x (s_n S) → s_srt (S_rp S (s_rk S x) (s_rv S x) i) := by
  intro i hi
  have h1 := cnt_le9 (s_sto S) x (s_n S)
  have h2 := h.1.1
  exact (h.rp (s_rk S x) (s_rv S x) i (fun j hj => h.rk x j (by omega)) (by omega)).1.srt
theorem lwI.storm1 {S : St} {B : Int} (h : lwI S B) (hs : s_sc S < 8) : lwI (S_storm S 1 (s_sc S + 1)) B := by
  obtain ⟨hg9, a1, a2, a3, a4, a5⟩ := h
  exact ⟨hg9.same rfl rfl rfl rfl, a1, show s_sc S + 1 ≤ 8 by omega, fun _ => show 1 ≤ s_sc S + 1 by omega, Or.inr rfl, a5⟩
theorem lwI.storm0 {S : St} {B : Int} (h : lwI S B) : lwI (S_storm S 0 (s_sc S)) B := by
  obtain ⟨hg9, a1, a2, a3, a4, a5⟩ := h
  exact ⟨hg9.same rfl rfl rfl rfl, a1, a2, fun q9 => absurd rfl q9, Or.inl rfl, a5⟩
theorem lwI.ship {S : St} {B : Int} (h : lwI S B) {q o : Int32} (hp9 : okPace q) (hs : s_sh S < 6) : lwI (S_ship S q o) B := by
  obtain ⟨hg9, a1, a2, a3, a4, a5⟩ := h
  refine ⟨hg9.same rfl rfl rfl rfl, show s_sh S + 1 ≤ 6 by omega, a2, a3, a4, fun i hi => ?_⟩
  have hi : i < s_sh S + 1 := hi
  show 1 ≤ (upd (s_pc S) (s_sh S) q i).toNatClampNeg ∧ (upd (s_pc S) (s_sh S) q i).toNatClampNeg ≤ 5 ∧ upd (s_pc S) (s_sh S) q i = nI (upd (s_pc S) (s_sh S) q i).toNatClampNeg
  by_cases q9 : i = s_sh S
  · simp only [upd, if_pos q9]
    have hp1 := hp9.1
    have hp2 := hp9.2
    have h0 : ¬ q < 0 := by
      rw [Int32.lt_iff_toInt_lt] at hp1 ⊢
      have e0 : (0 : Int32).toInt = 0 := rfl
      have e1 : (1 : Int32).toInt = 1 := rfl
      omega
    have h6 : q < nI 6 := by
      rw [Int32.lt_iff_toInt_lt] at hp2 ⊢
      have e5 : (5 : Int32).toInt = 5 := rfl
      have e6 : (nI 6).toInt = 6 := rfl
      omega
    obtain ⟨b1, b2⟩ := okNat (n := 6) (by omega) h0 h6
    refine ⟨?_, by omega, b2⟩
    by_cases z9 : q.toNatClampNeg = 0
    · rw [z9] at b2
      rw [b2] at hp1
      exact absurd (by decide) hp1
    · omega
  · simp only [upd, if_neg q9]
    exact a5 i (by omega)
theorem lwI.at_ {S : St} {B : Int} (h : lwI S B) (v : Nat → Int32) : lwI (S_at S v) B := ⟨h.1.same rfl rfl rfl rfl, h.2.same rfl rfl rfl rfl⟩
theorem S_ps_keep2 (S : St) (h : Nat) : ∀ i, s_nx (S_ps S h i) = s_nx S ∧ s_sc (S_ps S h i) = s_sc S := by
  intro i
  induction i with
  | zero => exact ⟨rfl, rfl⟩
  | succ i ih9 => exact ih9
theorem lwI.pass {S : St} {B : Int} (h : lwI S B) (x : Int32) : lwI (S_pass S x) B := by
  obtain ⟨h1, h2, h3, h4, h5, h6, -⟩ := S_ps_keep S x.toNatClampNeg (s_sh S)
  obtain ⟨h7, h8⟩ := S_ps_keep2 S x.toNatClampNeg (s_sh S)
  exact ⟨h.1.same h3 h1 h2 h7, h.2.same h4 h8 h6 h5⟩
theorem lwI_0 : lwI S0 0 := ⟨⟨by decide, fun i hi => absurd hi (Nat.not_lt_zero _), fun i j _ hj => absurd hj (Nat.not_lt_zero _), fun i hi => absurd hi (Nat.not_lt_zero _), by decide, by decide⟩, by decide, by decide, fun q9 => absurd rfl q9, Or.inl rfl, fun i hi => absurd hi (Nat.not_lt_zero _)⟩
