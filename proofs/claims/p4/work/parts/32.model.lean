/-- n digits of base three, the first the heaviest: the measure of the model's search (2: not chosen, 1: chosen denied, 0: chosen true) -/
def ms (D : Nat → Nat) : Nat → Nat
  | 0 => 0
  | n + 1 => 3 * ms D n + D n
theorem ms_eq {D E : Nat → Nat} {n : Nat} (h : ∀ i, i < n → E i = D i) : ms E n = ms D n := by
  induction n with
  | zero => rfl
  | succ n ih => show 3 * ms E n + E n = 3 * ms D n + D n; rw [ih (fun i hi => h i (by omega)), h n (by omega)]
theorem ms_lt {D E : Nat → Nat} {j : Nat} (h1 : ∀ i, i < j → E i = D i) (h2 : E j < D j) (h3 : ∀ i, E i ≤ 2) : ∀ n, j < n → ms E n < ms D n := by
  intro n
  induction n with
  | zero => intro h; omega
  | succ n ih =>
    intro h
    show 3 * ms E n + E n < 3 * ms D n + D n
    by_cases hj : j = n
    · subst hj; rw [ms_eq h1]; omega
    · have := ih (by omega); have := h3 n; omega
/-- the denial of variable v, as the model writes it -/
def ng (v : Nat) : Int32 := 0 - nI v
theorem ng_sub (v : Nat) : nI 0 - ng v = nI v := by
  show (0 : Int32) - (0 - nI v) = nI v
  rw [Int32.zero_sub, Int32.zero_sub, Int32.neg_neg]
theorem ng_lt {v : Nat} (h1 : 1 ≤ v) (h2 : v ≤ 400) : ng v < 0 := by
  have : ∀ v : Fin 401, 1 ≤ v.1 → ng v.1 < 0 := by decide +kernel
  exact this ⟨v, by omega⟩ h1
theorem tp1 {x : Int32} (h : x = -1 ∨ x = 0 ∨ x = 1) (hn : ¬ 0 ≤ x) : x = -1 := by
  rcases h with h | h | h
  · exact h
  · subst h; exact absurd (by decide) hn
  · subst h; exact absurd (by decide) hn
theorem tp2 {x : Int32} (h : x = -1 ∨ x = 0 ∨ x = 1) (hn : 0 ≤ x) : x = 0 ∨ x = 1 := by
  rcases h with h | h
  · subst h; exact absurd hn (by decide)
  · exact h
/-- the truth of a denial -/
def ntv (x : Int32) : Int32 := if x = -1 then -1 else 1 - x
theorem ntv_1 {x : Int32} (h : x = -1 ∨ x = 0 ∨ x = 1) (hn : ¬ 0 ≤ x) : -1 = ntv x := by rw [tp1 h hn]; rfl
theorem ntv_2 {x : Int32} (h : x = -1 ∨ x = 0 ∨ x = 1) (hn : 0 ≤ x) : 1 - x = ntv x := by
  rcases tp2 h hn with q | q <;> subst q <;> decide
