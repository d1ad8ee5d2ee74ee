/-- n digits of base three, the first the heaviest: the measure of the model's search (2: not chosen, 1: chosen denied, 0: chosen true) -/
def ms (D : Nat → Nat) : Nat → Nat
  | 0 => 0
  | n + 1 => 3 * ms D n + D n
theorem ms_eq {D E : Nat → Nat} {n : Nat} (h : ∀ i, i < n → E i = D i) : ms E n = ms D n := by
  induction n with
  | zero => rfl
  | succ n ih => show 3 * ms E n + E n = 3 * ms D n + D n; rw [ih (fun i hi => h i (by omega)), h n (by omega)]
theorem ms_lt {D E : Nat → Nat} {j : Nat} (h1 : ∀ i, i < j → E i = D i) (h2 : E j < D j) (h3 : ∀ i, E i ≤ 2) : ∀ n, j < n → ms E n < ms D n := by
  intro n
  induction n with
  | zero => intro h; omega
  | succ n ih =>
    intro h
    show 3 * ms E n + E n < 3 * ms D n + D n
    by_cases hj : j = n
    · subst hj; rw [ms_eq h1]; omega
    · have := ih (by omega); have := h3 n; omega
