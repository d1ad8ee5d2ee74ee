def Mx : Type := (Nat) × (Nat) × (Int32) × (Int32) × (Nat → Int32) × (Nat → Int32) × (Nat → Nat)
def Mx.rs (a : Mx) : Nat := a.1
def Mx.vc (a : Mx) : Nat := a.2.1
def Mx.ws (a : Mx) : Int32 := a.2.2.1
def Mx.bw (a : Mx) : Int32 := a.2.2.2.1
def Mx.rw (a : Mx) : Nat → Int32 := a.2.2.2.2.1
def Mx.wy (a : Mx) : Nat → Int32 := a.2.2.2.2.2.1
def Mx.A (a : Mx) : Nat → Nat := a.2.2.2.2.2.2
def Mx.of (rs : Nat) (vc : Nat) (ws : Int32) (bw : Int32) (rw : Nat → Int32) (wy : Nat → Int32) (A : Nat → Nat) : Mx := (rs, vc, ws, bw, rw, wy, A)
/-- the clauses as they were given -/
def Kok (a : Rx) : Prop := (a.n < a.la) ∧ (a.la ≤ 1048576) ∧ (a.lc ≤ 4194304) ∧ (∀ r, r ≤ a.n → a.sf r = nI (a.S r)) ∧ (∀ r, r < a.n → a.S r ≤ a.S (r + 1)) ∧ (a.S a.n ≤ a.lc) ∧ (∀ j, j < a.S a.n → a.cf j = nI (a.C j) ∧ 2 ≤ a.C j ∧ a.C j < 802)
theorem Kok.n1 {a : Rx} (h : Kok a) : a.n < a.la := h.1
theorem Kok.la {a : Rx} (h : Kok a) : a.la ≤ 1048576 := h.2.1
theorem Kok.lc {a : Rx} (h : Kok a) : a.lc ≤ 4194304 := h.2.2.1
theorem Kok.sf {a : Rx} (h : Kok a) : ∀ r, r ≤ a.n → a.sf r = nI (a.S r) := h.2.2.2.1
theorem Kok.up {a : Rx} (h : Kok a) : ∀ r, r < a.n → a.S r ≤ a.S (r + 1) := h.2.2.2.2.1
theorem Kok.top {a : Rx} (h : Kok a) : a.S a.n ≤ a.lc := h.2.2.2.2.2.1
theorem Kok.cf {a : Rx} (h : Kok a) : ∀ j, j < a.S a.n → a.cf j = nI (a.C j) ∧ 2 ≤ a.C j ∧ a.C j < 802 := h.2.2.2.2.2.2
theorem Kok.mono {a : Rx} (h : Kok a) : ∀ d r, r + d ≤ a.n → a.S r ≤ a.S (r + d) := by
  intro d
  induction d with
  | zero => intro r _; exact Nat.le_refl _
  | succ d ih => intro r hr; have := ih r (by omega); have := h.up (r + d) (by omega); rw [show r + (d + 1) = r + d + 1 by omega]; omega
theorem Kok.inb {a : Rx} (h : Kok a) {r : Nat} (h1 : r < a.n) : a.S r ≤ a.S (r + 1) ∧ a.S (r + 1) ≤ a.S a.n ∧ a.S a.n ≤ a.lc ∧ a.lc ≤ 4194304 ∧ a.n < a.la ∧ a.la ≤ 1048576 := by
  have h2 := h.up r h1; have h3 := h.mono (a.n - (r + 1)) (r + 1) (by omega); rw [show r + 1 + (a.n - (r + 1)) = a.n by omega] at h3; have := h.top; have := h.lc; have := h.n1; have := h.la
  omega
