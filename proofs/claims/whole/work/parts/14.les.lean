def Lx : Type := (Nat → Int32) × (Nat → Int32) × (Nat → Int32) × (Nat) × (Nat) × (Nat) × (Nat → Nat) × (Nat → Nat)
def Lx.sn (a : Lx) : Nat → Int32 := a.1
def Lx.cd (a : Lx) : Nat → Int32 := a.2.1
def Lx.us (a : Lx) : Nat → Int32 := a.2.2.1
def Lx.sz (a : Lx) : Nat := a.2.2.2.1
def Lx.uz (a : Lx) : Nat := a.2.2.2.2.1
def Lx.op (a : Lx) : Nat := a.2.2.2.2.2.1
def Lx.Q (a : Lx) : Nat → Nat := a.2.2.2.2.2.2.1
def Lx.U (a : Lx) : Nat → Nat := a.2.2.2.2.2.2.2
def Lx.of (sn : Nat → Int32) (cd : Nat → Int32) (us : Nat → Int32) (sz : Nat) (uz : Nat) (op : Nat) (Q : Nat → Nat) (U : Nat → Nat) : Lx := (sn, cd, us, sz, uz, op, Q, U)
/-- how many below n -/
def cn (P : Nat → Bool) : Nat → Nat
  | 0 => 0
  | n + 1 => cn P n + (if P n = true then 1 else 0)
theorem cn_congr {P P' : Nat → Bool} {n : Nat} (h : ∀ p, p < n → P p = P' p) : cn P n = cn P' n := by
  induction n with
  | zero => rfl
  | succ n ih => show cn P n + _ = cn P' n + _; rw [ih (fun p hp => h p (by omega)), h n (by omega)]
theorem cn_up {P P' : Nat → Bool} {q : Nat} : ∀ {n : Nat}, q < n → (∀ p, p < n → p ≠ q → P' p = P p) → P q = false → P' q = true → cn P' n = cn P n + 1 := by
  intro n
  induction n with
  | zero => intro h; omega
  | succ n ih =>
    intro h1 h2 h3 h4
    show cn P' n + _ = cn P n + _ + 1
    by_cases hq : q = n
    · subst hq
      rw [cn_congr (P := P') (P' := P) (fun p hp => h2 p (by omega) (by omega)), h3, h4]; rfl
    · rw [ih (by omega) (fun p hp => h2 p (by omega)) h3 h4, h2 n (by omega) (by omega)]; omega
theorem cn_pos {P : Nat → Bool} : ∀ {n : Nat}, 0 < cn P n → ∃ p, p < n ∧ P p = true := by
  intro n
  induction n with
  | zero => intro h; exact absurd h (Nat.lt_irrefl 0)
  | succ n ih =>
    intro h
    by_cases hp : P n = true
    · exact ⟨n, Nat.lt_succ_self n, hp⟩
    · have h : 0 < cn P n + (if P n = true then 1 else 0) := h
      rw [if_neg hp] at h
      obtain ⟨p, p1, p2⟩ := ih h; exact ⟨p, by omega, p2⟩
theorem cn_le (P : Nat → Bool) (n : Nat) : cn P n ≤ n := by
  induction n with
  | zero => exact Nat.le_refl _
  | succ n ih => show cn P n + _ ≤ _; split <;> omega
theorem cn_ge {P : Nat → Bool} {p : Nat} : ∀ {n : Nat}, p < n → P p = true → 0 < cn P n := by
  intro n
  induction n with
  | zero => intro h; omega
  | succ n ih =>
    intro h1 h2
    show 0 < cn P n + _
    by_cases hp : p = n
    · subst hp; rw [if_pos h2]; omega
    · have := ih (by omega) h2; omega
/-- a variable of the last level that was seen -/
def opn (d : Tx) (z : Lx) : Nat → Bool := fun p => decide (d.L d.lev ≤ p ∧ z.sn (d.O p / 2) ≠ 0)
theorem opn_eq {d : Tx} {z z' : Lx} {p : Nat} (h : z'.sn (d.O p / 2) = z.sn (d.O p / 2)) : opn d z' p = opn d z p := by unfold opn; simp only [h]
theorem opn_no {d : Tx} {z : Lx} {p : Nat} (h : ¬ d.L d.lev ≤ p) : opn d z p = false := decide_eq_false (fun x => h x.1)
/-- a lesson under way -/
def Jok (a : Rx) (d : Tx) (z : Lx) (i e : Nat) : Prop := (1 ≤ z.sz) ∧ (∀ j, 1 ≤ j → j < z.sz → z.cd j = nI (fl (d.O (z.Q j))) ∧ z.Q j < d.k ∧ d.V (z.Q j) < d.lev ∧ z.sn (d.O (z.Q j) / 2) ≠ 0) ∧ (∀ j h, 1 ≤ j → j < z.sz → 1 ≤ h → h < z.sz → z.Q j = z.Q h → j = h) ∧ (∀ v, 1 ≤ v → v ≤ 400 → z.sn v ≠ 0 → (∃ j, 1 ≤ j ∧ j < z.sz ∧ d.O (z.Q j) / 2 = v) ∨ ∃ p, p < e ∧ d.L d.lev ≤ p ∧ d.O p / 2 = v) ∧ (z.op = cn (opn d z) i) ∧ (∀ j, j < z.uz → z.us j = nI (z.U j) ∧ z.U j < a.n)
theorem Jok.s1 {a : Rx} {d : Tx} {z : Lx} {i e : Nat} (h : Jok a d z i e) : 1 ≤ z.sz := h.1
theorem Jok.cd {a : Rx} {d : Tx} {z : Lx} {i e : Nat} (h : Jok a d z i e) : ∀ j, 1 ≤ j → j < z.sz → z.cd j = nI (fl (d.O (z.Q j))) ∧ z.Q j < d.k ∧ d.V (z.Q j) < d.lev ∧ z.sn (d.O (z.Q j) / 2) ≠ 0 := h.2.1
theorem Jok.ij {a : Rx} {d : Tx} {z : Lx} {i e : Nat} (h : Jok a d z i e) : ∀ j h, 1 ≤ j → j < z.sz → 1 ≤ h → h < z.sz → z.Q j = z.Q h → j = h := h.2.2.1
theorem Jok.sn {a : Rx} {d : Tx} {z : Lx} {i e : Nat} (h : Jok a d z i e) : ∀ v, 1 ≤ v → v ≤ 400 → z.sn v ≠ 0 → (∃ j, 1 ≤ j ∧ j < z.sz ∧ d.O (z.Q j) / 2 = v) ∨ ∃ p, p < e ∧ d.L d.lev ≤ p ∧ d.O p / 2 = v := h.2.2.2.1
theorem Jok.op {a : Rx} {d : Tx} {z : Lx} {i e : Nat} (h : Jok a d z i e) : z.op = cn (opn d z) i := h.2.2.2.2.1
theorem Jok.us {a : Rx} {d : Tx} {z : Lx} {i e : Nat} (h : Jok a d z i e) : ∀ j, j < z.uz → z.us j = nI (z.U j) ∧ z.U j < a.n := h.2.2.2.2.2
theorem Jok.sz {a : Rx} {d : Tx} {z : Lx} {i e : Nat} (h : Jok a d z i e) : z.sz ≤ d.k + 1 := by
  have := pg d.k (z.sz - 1) (fun j => z.Q (j + 1)) (fun j hj => (h.cd (j + 1) (by omega) (by omega)).2.1) (fun j g hj hg q => by
    have := h.ij (j + 1) (g + 1) (by omega) (by omega) (by omega) (by omega) q; omega)
  omega
/-- one more of the last level is seen -/
def Jad1 (d : Tx) (z : Lx) (q : Nat) : Lx := Lx.of (upd z.sn (d.O q / 2) 1) z.cd z.us z.sz z.uz (z.op + 1) z.Q z.U
/-- one more of a lower level is seen -/
def Jad2 (d : Tx) (z : Lx) (q : Nat) : Lx := Lx.of (upd z.sn (d.O q / 2) 1) (upd z.cd z.sz (nI (fl (d.O q)))) z.us (z.sz + 1) z.uz z.op (upN z.Q z.sz q) z.U
theorem sn_ne {f : Nat → Int32} {v x : Nat} (h : f x ≠ 0) : upd f v 1 x ≠ 0 := by
  by_cases hx : x = v
  · rw [hx, pk_us]; decide
  · rw [pk_un hx]; exact h
theorem Jok.ad1 {a : Rx} {d : Tx} {z : Lx} {i e q : Nat} (h : Jok a d z i e) (hT : Tok d) (hi : i ≤ e) (he : e ≤ d.k) (hq : q < i) (hl : d.L d.lev ≤ q) (hs : z.sn (d.O q / 2) = 0) : Jok a d (Jad1 d z q) i e := by
  refine ⟨h.s1, fun j h1 h2 => ?_, h.ij, fun v h1 h2 h3 => ?_, ?_, h.us⟩
  · obtain ⟨c1, c2, c3, c4⟩ := h.cd j h1 h2; exact ⟨c1, c2, c3, sn_ne c4⟩
  · have h3 : upd z.sn (d.O q / 2) 1 v ≠ 0 := h3
    by_cases hv : v = d.O q / 2
    · exact Or.inr ⟨q, by omega, hl, hv.symm⟩
    · rw [pk_un hv] at h3; exact h.sn v h1 h2 h3
  · show z.op + 1 = _
    rw [h.op]
    refine (cn_up (q := q) hq (fun p hp hne => ?_) ?_ ?_).symm
    · exact opn_eq (pk_un (fun e1 => hne (hT.ds p q (by omega) (by omega) e1)))
    · exact decide_eq_false (fun x => x.2 hs)
    · exact decide_eq_true ⟨hl, by show upd z.sn (d.O q / 2) 1 (d.O q / 2) ≠ 0; rw [pk_us]; decide⟩
theorem Jok.ad2 {a : Rx} {d : Tx} {z : Lx} {i e q : Nat} (h : Jok a d z i e) (hT : Tok d) (hi : i ≤ e) (he : e ≤ d.k) (hq : q < d.k) (hl : ¬ d.L d.lev ≤ q) (hv : d.V q < d.lev) (hs : z.sn (d.O q / 2) = 0) : Jok a d (Jad2 d z q) i e := by
  have hQ : ∀ j, j < z.sz → (Jad2 d z q).Q j = z.Q j := fun j hj => upN_n (by omega)
  have hQs : (Jad2 d z q).Q z.sz = q := upN_s
  have hc : ∀ j, j < (Jad2 d z q).sz → j < z.sz ∨ j = z.sz := fun j hj => by have hj : j < z.sz + 1 := hj; omega
  have hnew : ∀ j, 1 ≤ j → j < z.sz → z.Q j ≠ q := fun j h1 h2 e1 => (h.cd j h1 h2).2.2.2 (by rw [e1]; exact hs)
  refine ⟨Nat.le_succ_of_le h.s1, fun j h1 h2 => ?_, fun j g h1 h2 g1 g2 e1 => ?_, fun v h1 h2 h3 => ?_, ?_, h.us⟩
  · rcases hc j h2 with x | x
    · rw [hQ j x]; obtain ⟨c1, c2, c3, c4⟩ := h.cd j h1 x
      exact ⟨(pk_un (show j ≠ z.sz by omega)).trans c1, c2, c3, sn_ne c4⟩
    · rw [x, hQs]; exact ⟨pk_us, hq, hv, by show upd z.sn (d.O q / 2) 1 (d.O q / 2) ≠ 0; rw [pk_us]; decide⟩
  · rcases hc j h2 with x | x <;> rcases hc g g2 with y | y
    · rw [hQ j x, hQ g y] at e1; exact h.ij j g h1 x g1 y e1
    · rw [hQ j x, y, hQs] at e1; exact absurd e1 (hnew j h1 x)
    · rw [hQ g y, x, hQs] at e1; exact absurd e1.symm (hnew g g1 y)
    · omega
  · have h3 : upd z.sn (d.O q / 2) 1 v ≠ 0 := h3
    by_cases hw : v = d.O q / 2
    · exact Or.inl ⟨z.sz, h.s1, Nat.lt_succ_self _, by rw [hQs]; exact hw.symm⟩
    · rw [pk_un hw] at h3
      rcases h.sn v h1 h2 h3 with ⟨j, j1, j2, j3⟩ | y
      · exact Or.inl ⟨j, j1, Nat.lt_succ_of_lt j2, by rw [hQ j j2]; exact j3⟩
      · exact Or.inr y
  · show z.op = _
    rw [h.op]
    refine cn_congr (fun p hp => ?_)
    by_cases hpq : p = q
    · subst hpq; rw [opn_no hl, opn_no hl]
    · refine Eq.symm (opn_eq ?_)
      exact pk_un (fun e1 => hpq (hT.ds p q (by omega) (by omega) e1))
/-- what is still unseen of row r lies below i -/
def Jrow (a : Rx) (d : Tx) (z : Lx) (r i : Nat) : Prop := ∀ j, a.S r ≤ j → j < a.S (r + 1) → z.sn (a.C j / 2) = 0 → ∃ q, q < i ∧ d.O q = fl (a.C j)
theorem Jrow.up {a : Rx} {d : Tx} {z z' : Lx} {r i q : Nat} (h : Jrow a d z r i) (e : z'.sn = upd z.sn (d.O q / 2) 1) : Jrow a d z' r i := fun j h1 h2 h3 => h j h1 h2 (by
  rw [e] at h3
  by_cases hx : a.C j / 2 = d.O q / 2
  · rw [hx, pk_us] at h3; exact absurd h3 (by decide)
  · rwa [pk_un hx] at h3)
theorem jm_up {f : Nat → Int32} {c o : Nat} (e : o = fl c) : c / 2 = o / 2 ∧ c = fl o := by subst e; exact ⟨(fl_var c).symm, (fl_fl c).symm⟩
theorem Jok.usd {a : Rx} {d : Tx} {z : Lx} {i e r : Nat} (h : Jok a d z i e) (hr : r < a.n) : Jok a d (Lx.of z.sn z.cd (upd z.us z.uz (nI r)) z.sz (z.uz + 1) z.op z.Q (upN z.U z.uz r)) i e := by
  refine ⟨h.s1, h.cd, h.ij, h.sn, h.op, fun j hj => ?_⟩
  have hj : j < z.uz + 1 := hj
  show upd z.us z.uz (nI r) j = nI (upN z.U z.uz r j) ∧ upN z.U z.uz r j < a.n
  by_cases hq : j = z.uz
  · rw [hq, pk_us, upN_s]; exact ⟨rfl, hr⟩
  · rw [pk_un hq, upN_n hq]; exact h.us j (by omega)
