/-! numbers of the walks -/
/-- the code of the denial -/
def fl (c : Nat) : Nat := if c % 2 = 0 then c + 1 else c - 1
theorem fl_var (c : Nat) : fl c / 2 = c / 2 := by unfold fl; split <;> omega
theorem fl_fl (c : Nat) : fl (fl c) = c := by unfold fl; split <;> split <;> omega
theorem fl_ne (c : Nat) : fl c ≠ c := by unfold fl; split <;> omega
theorem fl_in {c n : Nat} (h1 : 2 ≤ c) (h2 : c ≤ 2 * n + 1) : 2 ≤ fl c ∧ fl c ≤ 2 * n + 1 := by unfold fl; split <;> omega
theorem fl_of {c d : Nat} (h : c / 2 = d / 2) : d = c ∨ d = fl c := by unfold fl; split <;> omega
theorem ni_shr {a : Nat} (h : a < 2 ^ 31) : nI a >>> (nI 1 &&& 31) = nI (a / 2) := pk_shrN h (nI 1 &&& 31) 1 (by decide)
theorem ni_and (a : Nat) (h : a < 2 ^ 31) : nI a &&& nI 1 = nI (a % 2) := pk_andN (by omega) 1 (by decide)
theorem ni_xor (a : Nat) (h : a < 2 ^ 31) : nI a ^^^ nI 1 = nI (fl a) := by
  apply Int32.toBitVec_inj.mp
  apply BitVec.eq_of_toNat_eq
  have h1 : (nI a ^^^ nI 1).toBitVec = (nI a).toBitVec ^^^ (nI 1).toBitVec := rfl
  have h3 : (nI 1).toBitVec.toNat = 1 := pk_tn (by decide)
  have h4 : fl a < 2 ^ 32 := by unfold fl; split <;> omega
  rw [h1, BitVec.toNat_xor, pk_tn (by omega), h3, pk_tn h4]
  have h5 : (a ^^^ 1) / 2 = a / 2 := by rw [Nat.xor_div_two]; simp
  have h6 : ((a ^^^ 1) % 2 = 1) ↔ ¬ ((a % 2 = 1) ↔ (1 % 2 = 1)) := Nat.xor_mod_two_eq_one
  unfold fl
  split <;> omega
theorem ni_dec (a : Nat) (h : 0 < a) : nI a + Int32.ofInt (-1) = nI (a - 1) := sb_m1 h
theorem ni_min {a b : Nat} (ha : a < 2 ^ 31) (hb : b < 2 ^ 31) : (if nI b < nI a then nI b else nI a) = nI (min a b) := by
  by_cases h : b < a
  · rw [if_pos ((nI_ltI hb ha).mpr h), Nat.min_eq_right (by omega)]
  · rw [if_neg (fun q => h ((nI_ltI hb ha).mp q)), Nat.min_eq_left (by omega)]
