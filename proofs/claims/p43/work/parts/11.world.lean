/-- the state of a log, as both sides hold it: off key val sto n nx dr hr sc on said sh pc at hd ms kn -/
abbrev St : Type := (Nat → Int32) × (Nat → Int32) × (Nat → Int32) × (Nat → Int32) × Nat × Int32 × Int32 × Int32 × Nat × Int32 × (Nat → Int32) × Nat × (Nat → Int32) × (Nat → Int32) × (Nat → Int32) × (Nat → Int32) × (Nat → Nat → Int32)
abbrev s_off (S : St) : Nat → Int32 := S.1
abbrev s_key (S : St) : Nat → Int32 := S.2.1
abbrev s_val (S : St) : Nat → Int32 := S.2.2.1
abbrev s_sto (S : St) : Nat → Int32 := S.2.2.2.1
abbrev s_n (S : St) : Nat := S.2.2.2.2.1
abbrev s_nx (S : St) : Int32 := S.2.2.2.2.2.1
abbrev s_dr (S : St) : Int32 := S.2.2.2.2.2.2.1
abbrev s_hr (S : St) : Int32 := S.2.2.2.2.2.2.2.1
abbrev s_sc (S : St) : Nat := S.2.2.2.2.2.2.2.2.1
abbrev s_on (S : St) : Int32 := S.2.2.2.2.2.2.2.2.2.1
abbrev s_said (S : St) : Nat → Int32 := S.2.2.2.2.2.2.2.2.2.2.1
abbrev s_sh (S : St) : Nat := S.2.2.2.2.2.2.2.2.2.2.2.1
abbrev s_pc (S : St) : Nat → Int32 := S.2.2.2.2.2.2.2.2.2.2.2.2.1
abbrev s_at (S : St) : Nat → Int32 := S.2.2.2.2.2.2.2.2.2.2.2.2.2.1
abbrev s_hd (S : St) : Nat → Int32 := S.2.2.2.2.2.2.2.2.2.2.2.2.2.2.1
abbrev s_ms (S : St) : Nat → Int32 := S.2.2.2.2.2.2.2.2.2.2.2.2.2.2.2.1
abbrev s_kn (S : St) : Nat → Nat → Int32 := S.2.2.2.2.2.2.2.2.2.2.2.2.2.2.2.2
abbrev mkS (off key val sto : Nat → Int32) (n : Nat) (nx dr hr : Int32) (sc : Nat) (on : Int32) (said : Nat → Int32) (sh : Nat) (pc sat hd ms : Nat → Int32) (kn : Nat → Nat → Int32) : St := (off, key, val, sto, n, nx, dr, hr, sc, on, said, sh, pc, sat, hd, ms, kn)
/-- the row of the ships -/
def xFl (a : Nat → Nat) : Nat → Option Nat := fun i => if i < 6 then some (a (11 + i)) else none
/-- the cells of the class: 0 the log itself, 1 its Log, 2 - 6 the Log's rows, 7 saidInStorm, 8 fleet, 9 - 10 the rows of a replay, 11 - 16 ships, 17 - 22 what they know -/
def xW (E : gE) (a : Nat → Nat) (S : St) (mk rk rv : Nat → Int32) : va_W :=
  [(a 0, .inr (2, [.ref (a 1), .ref (a 7), .ref (a 8), .ref (a 9), .ref (a 10), .int (s_hr S), .int (nI (s_sc S)), .int (s_on S), .int (nI (s_sh S))])),
   (a 1, .inr (0, [.ref (a 2), .ref (a 3), .ref (a 4), .ref (a 5), .ref (a 6), .int (nI (s_n S)), .int (s_nx S), .int (s_dr S)])),
   (a 2, .inl (eI E, 48, .inl (s_off S))), (a 3, .inl (eI E, 48, .inl (s_key S))), (a 4, .inl (eI E, 48, .inl (s_val S))), (a 5, .inl (eI E, 48, .inl (s_sto S))), (a 6, .inl (eZ E, 48, .inl mk)),
   (a 7, .inl (eI E, 8, .inl (s_said S))), (a 8, .inl (eO E, 6, .inr (.inr (.inr (.inr (xFl a)))))), (a 9, .inl (eI E, 48, .inl rk)), (a 10, .inl (eI E, 48, .inl rv)),
   (a 11, .inr (1, [.ref (a 17), .int (s_pc S 0), .int (s_at S 0), .int (s_hd S 0), .int (s_ms S 0)])), (a 12, .inr (1, [.ref (a 18), .int (s_pc S 1), .int (s_at S 1), .int (s_hd S 1), .int (s_ms S 1)])), (a 13, .inr (1, [.ref (a 19), .int (s_pc S 2), .int (s_at S 2), .int (s_hd S 2), .int (s_ms S 2)])),
   (a 14, .inr (1, [.ref (a 20), .int (s_pc S 3), .int (s_at S 3), .int (s_hd S 3), .int (s_ms S 3)])), (a 15, .inr (1, [.ref (a 21), .int (s_pc S 4), .int (s_at S 4), .int (s_hd S 4), .int (s_ms S 4)])), (a 16, .inr (1, [.ref (a 22), .int (s_pc S 5), .int (s_at S 5), .int (s_hd S 5), .int (s_ms S 5)])),
   (a 17, .inl (eI E, 10, .inl (s_kn S 0))), (a 18, .inl (eI E, 10, .inl (s_kn S 1))), (a 19, .inl (eI E, 10, .inl (s_kn S 2))), (a 20, .inl (eI E, 10, .inl (s_kn S 3))), (a 21, .inl (eI E, 10, .inl (s_kn S 4))), (a 22, .inl (eI E, 10, .inl (s_kn S 5)))]
/-- the cells of the reference: 0 itself, 1 - 5 its rows, 6 said, 7 pace, 8 at, 9 heard, 10 missed, 11 known -/
def mKn (kn : Nat → Nat → Int32) : Nat → Int32 := fun j => kn (j / 10) (j % 10)
def mW (E : gE) (b : Nat → Nat) (S : St) (th : Int32) (mk : Nat → Int32) : va_W :=
  [(b 0, .inr (3, [.int th, .int (nI (s_n S)), .ref (b 1), .ref (b 2), .ref (b 3), .ref (b 4), .ref (b 5), .int (s_nx S), .int (s_dr S), .int (s_hr S), .int (nI (s_sc S)), .int (s_on S), .ref (b 6), .int (nI (s_sh S)), .ref (b 7), .ref (b 8), .ref (b 9), .ref (b 10), .ref (b 11)])),
   (b 1, .inl (eI E, 48, .inl (s_off S))), (b 2, .inl (eI E, 48, .inl (s_key S))), (b 3, .inl (eI E, 48, .inl (s_val S))), (b 4, .inl (eI E, 48, .inl (s_sto S))), (b 5, .inl (eZ E, 48, .inl mk)),
   (b 6, .inl (eI E, 8, .inl (s_said S))), (b 7, .inl (eI E, 6, .inl (s_pc S))), (b 8, .inl (eI E, 6, .inl (s_at S))), (b 9, .inl (eI E, 6, .inl (s_hd S))), (b 10, .inl (eI E, 6, .inl (s_ms S))), (b 11, .inl (eI E, 60, .inl (mKn (s_kn S))))]
section WX
variable {E : gE} {a : Nat → Nat} {S : St} {mk rk rv : Nat → Int32} {F : va_W}
theorem six {P : Nat → Prop} (h0 : P 0) (h1 : P 1) (h2 : P 2) (h3 : P 3) (h4 : P 4) (h5 : P 5) {i : Nat} (hi : i < 6) : P i := by
  rcases (show i = 0 ∨ i = 1 ∨ i = 2 ∨ i = 3 ∨ i = 4 ∨ i = 5 by omega) with rfl | rfl | rfl | rfl | rfl | rfl <;> assumption
theorem xFl_at {i : Nat} (hi : i < 6) : xFl a i = some (a (11 + i)) := by simp [xFl, hi]
/-- ship i -/
theorem xw_ship {i : Nat} (hi : i < 6) : (xW E a S mk rk rv ++ F)[11 + i]? = some (a (11 + i), .inr (1, [.ref (a (17 + i)), .int (s_pc S i), .int (s_at S i), .int (s_hd S i), .int (s_ms S i)])) :=
  six (P := fun i => (xW E a S mk rk rv ++ F)[11 + i]? = some (a (11 + i), .inr (1, [.ref (a (17 + i)), .int (s_pc S i), .int (s_at S i), .int (s_hd S i), .int (s_ms S i)]))) rfl rfl rfl rfl rfl rfl hi
theorem xw_kn {i : Nat} (hi : i < 6) : (xW E a S mk rk rv ++ F)[17 + i]? = some (a (17 + i), .inl (eI E, 10, .inl (s_kn S i))) :=
  six (P := fun i => (xW E a S mk rk rv ++ F)[17 + i]? = some (a (17 + i), .inl (eI E, 10, .inl (s_kn S i)))) rfl rfl rfl rfl rfl rfl hi
abbrev S_pc (S : St) (v : Nat → Int32) : St := mkS (s_off S) (s_key S) (s_val S) (s_sto S) (s_n S) (s_nx S) (s_dr S) (s_hr S) (s_sc S) (s_on S) (s_said S) (s_sh S) v (s_at S) (s_hd S) (s_ms S) (s_kn S)
abbrev S_at (S : St) (v : Nat → Int32) : St := mkS (s_off S) (s_key S) (s_val S) (s_sto S) (s_n S) (s_nx S) (s_dr S) (s_hr S) (s_sc S) (s_on S) (s_said S) (s_sh S) (s_pc S) v (s_hd S) (s_ms S) (s_kn S)
abbrev S_hd (S : St) (v : Nat → Int32) : St := mkS (s_off S) (s_key S) (s_val S) (s_sto S) (s_n S) (s_nx S) (s_dr S) (s_hr S) (s_sc S) (s_on S) (s_said S) (s_sh S) (s_pc S) (s_at S) v (s_ms S) (s_kn S)
abbrev S_ms (S : St) (v : Nat → Int32) : St := mkS (s_off S) (s_key S) (s_val S) (s_sto S) (s_n S) (s_nx S) (s_dr S) (s_hr S) (s_sc S) (s_on S) (s_said S) (s_sh S) (s_pc S) (s_at S) (s_hd S) v (s_kn S)
abbrev S_kn (S : St) (v : Nat → Nat → Int32) : St := mkS (s_off S) (s_key S) (s_val S) (s_sto S) (s_n S) (s_nx S) (s_dr S) (s_hr S) (s_sc S) (s_on S) (s_said S) (s_sh S) (s_pc S) (s_at S) (s_hd S) (s_ms S) v
theorem xs_pc {i : Nat} (hi : i < 6) (v : Int32) : (xW E a S mk rk rv ++ F).set (11 + i) (a (11 + i), .inr (1, [.ref (a (17 + i)), .int v, .int (s_at S i), .int (s_hd S i), .int (s_ms S i)])) = xW E a (S_pc S (upd (s_pc S) i v)) mk rk rv ++ F :=
  six (P := fun i => (xW E a S mk rk rv ++ F).set (11 + i) (a (11 + i), .inr (1, [.ref (a (17 + i)), .int v, .int (s_at S i), .int (s_hd S i), .int (s_ms S i)])) = xW E a (S_pc S (upd (s_pc S) i v)) mk rk rv ++ F) rfl rfl rfl rfl rfl rfl hi
theorem xs_at {i : Nat} (hi : i < 6) (v : Int32) : (xW E a S mk rk rv ++ F).set (11 + i) (a (11 + i), .inr (1, [.ref (a (17 + i)), .int (s_pc S i), .int v, .int (s_hd S i), .int (s_ms S i)])) = xW E a (S_at S (upd (s_at S) i v)) mk rk rv ++ F :=
  six (P := fun i => (xW E a S mk rk rv ++ F).set (11 + i) (a (11 + i), .inr (1, [.ref (a (17 + i)), .int (s_pc S i), .int v, .int (s_hd S i), .int (s_ms S i)])) = xW E a (S_at S (upd (s_at S) i v)) mk rk rv ++ F) rfl rfl rfl rfl rfl rfl hi
theorem xs_hd {i : Nat} (hi : i < 6) (v : Int32) : (xW E a S mk rk rv ++ F).set (11 + i) (a (11 + i), .inr (1, [.ref (a (17 + i)), .int (s_pc S i), .int (s_at S i), .int v, .int (s_ms S i)])) = xW E a (S_hd S (upd (s_hd S) i v)) mk rk rv ++ F :=
  six (P := fun i => (xW E a S mk rk rv ++ F).set (11 + i) (a (11 + i), .inr (1, [.ref (a (17 + i)), .int (s_pc S i), .int (s_at S i), .int v, .int (s_ms S i)])) = xW E a (S_hd S (upd (s_hd S) i v)) mk rk rv ++ F) rfl rfl rfl rfl rfl rfl hi
theorem xs_ms {i : Nat} (hi : i < 6) (v : Int32) : (xW E a S mk rk rv ++ F).set (11 + i) (a (11 + i), .inr (1, [.ref (a (17 + i)), .int (s_pc S i), .int (s_at S i), .int (s_hd S i), .int v])) = xW E a (S_ms S (upd (s_ms S) i v)) mk rk rv ++ F :=
  six (P := fun i => (xW E a S mk rk rv ++ F).set (11 + i) (a (11 + i), .inr (1, [.ref (a (17 + i)), .int (s_pc S i), .int (s_at S i), .int (s_hd S i), .int v])) = xW E a (S_ms S (upd (s_ms S) i v)) mk rk rv ++ F) rfl rfl rfl rfl rfl rfl hi
theorem xs_kn {i : Nat} (hi : i < 6) (g : Nat → Int32) : (xW E a S mk rk rv ++ F).set (17 + i) (a (17 + i), .inl (eI E, 10, .inl g)) = xW E a (S_kn S (va_up (s_kn S) i g)) mk rk rv ++ F :=
  six (P := fun i => (xW E a S mk rk rv ++ F).set (17 + i) (a (17 + i), .inl (eI E, 10, .inl g)) = xW E a (S_kn S (va_up (s_kn S) i g)) mk rk rv ++ F) rfl rfl rfl rfl rfl rfl hi
theorem mKn_upd {kn : Nat → Nat → Int32} {i k : Nat} (hk : k < 10) (v : Int32) : upd (mKn kn) (10 * i + k) v = mKn (va_up kn i (upd (kn i) k v)) := by
  funext j
  have h1 : (10 * i + k) / 10 = i := by omega
  have h2 : (10 * i + k) % 10 = k := by omega
  by_cases h : j = 10 * i + k
  · subst h
    simp [upd, mKn, va_up, h1, h2]
  · by_cases hi : j / 10 = i
    · have hk2 : j % 10 ≠ k := by omega
      simp [upd, mKn, va_up, h, hi, hk2]
    · simp [upd, mKn, va_up, h, hi]
theorem mKn_at {kn : Nat → Nat → Int32} {i k : Nat} (hk : k < 10) : mKn kn (10 * i + k) = kn i k := by
  have h1 : (10 * i + k) / 10 = i := by omega
  have h2 : (10 * i + k) % 10 = k := by omega
  simp [mKn, h1, h2]
end WX
