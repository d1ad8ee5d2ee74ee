def Lx : Type := (Nat → Int32) × (Nat → Int32) × (Nat → Int32) × (Nat) × (Nat) × (Nat) × (Nat → Nat) × (Nat → Nat)
def Lx.sn (a : Lx) : Nat → Int32 := a.1
def Lx.cd (a : Lx) : Nat → Int32 := a.2.1
def Lx.us (a : Lx) : Nat → Int32 := a.2.2.1
def Lx.sz (a : Lx) : Nat := a.2.2.2.1
def Lx.uz (a : Lx) : Nat := a.2.2.2.2.1
def Lx.op (a : Lx) : Nat := a.2.2.2.2.2.1
def Lx.Q (a : Lx) : Nat → Nat := a.2.2.2.2.2.2.1
def Lx.U (a : Lx) : Nat → Nat := a.2.2.2.2.2.2.2
def Lx.of (sn : Nat → Int32) (cd : Nat → Int32) (us : Nat → Int32) (sz : Nat) (uz : Nat) (op : Nat) (Q : Nat → Nat) (U : Nat → Nat) : Lx := (sn, cd, us, sz, uz, op, Q, U)
/-- how many below n -/
def cn (P : Nat → Bool) : Nat → Nat
  | 0 => 0
  | n + 1 => cn P n + (if P n = true then 1 else 0)
theorem cn_congr {P P' : Nat → Bool} {n : Nat} (h : ∀ p, p < n → P p = P' p) : cn P n = cn P' n := by
  induction n with
  | zero => rfl
  | succ n ih => show cn P n + _ = cn P' n + _; rw [ih (fun p hp => h p (by omega)), h n (by omega)]
theorem cn_up {P P' : Nat → Bool} {q : Nat} : ∀ {n : Nat}, q < n → (∀ p, p < n → p ≠ q → P' p = P p) → P q = false → P' q = true → cn P' n = cn P n + 1 := by
  intro n
  induction n with
  | zero => intro h; omega
  | succ n ih =>
    intro h1 h2 h3 h4
    show cn P' n + _ = cn P n + _ + 1
    by_cases hq : q = n
    · subst hq
      rw [cn_congr (P := P') (P' := P) (fun p hp => h2 p (by omega) (by omega)), h3, h4]; rfl
    · rw [ih (by omega) (fun p hp => h2 p (by omega)) h3 h4, h2 n (by omega) (by omega)]; omega
theorem cn_pos {P : Nat → Bool} : ∀ {n : Nat}, 0 < cn P n → ∃ p, p < n ∧ P p = true := by
  intro n
  induction n with
  | zero => intro h; exact absurd h (Nat.lt_irrefl 0)
  | succ n ih =>
    intro h
    by_cases hp : P n = true
    · exact ⟨n, Nat.lt_succ_self n, hp⟩
    · have h : 0 < cn P n + (if P n = true then 1 else 0) := h
      rw [if_neg hp] at h
      obtain ⟨p, p1, p2⟩ := ih h; exact ⟨p, by omega, p2⟩
theorem cn_le (P : Nat → Bool) (n : Nat) : cn P n ≤ n := by
  induction n with
  | zero => exact Nat.le_refl _
  | succ n ih => show cn P n + _ ≤ _; split <;> omega
theorem cn_ge {P : Nat → Bool} {p : Nat} : ∀ {n : Nat}, p < n → P p = true → 0 < cn P n := by
  intro n
  induction n with
  | zero => intro h; omega
  | succ n ih =>
    intro h1 h2
    show 0 < cn P n + _
    by_cases hp : p = n
    · subst hp; rw [if_pos h2]; omega
    · have := ih (by omega) h2; omega
/-- a variable of the last level that was seen -/
def opn (d : Tx) (z : Lx) : Nat → Bool := fun p => decide (d.L d.lev ≤ p ∧ z.sn (d.O p / 2) ≠ 0)
theorem opn_eq {d : Tx} {z z' : Lx} {p : Nat} (h : z'.sn (d.O p / 2) = z.sn (d.O p / 2)) : opn d z' p = opn d z p := by unfold opn; simp only [h]
theorem opn_no {d : Tx} {z : Lx} {p : Nat} (h : ¬ d.L d.lev ≤ p) : opn d z p = false := decide_eq_false (fun x => h x.1)
/-- a lesson under way -/
def Jok (a : Rx) (d : Tx) (z : Lx) (i e : Nat) : Prop := (1 ≤ z.sz) ∧ (∀ j, 1 ≤ j → j < z.sz → z.cd j = nI (fl (d.O (z.Q j))) ∧ z.Q j < d.k ∧ d.V (z.Q j) < d.lev ∧ z.sn (d.O (z.Q j) / 2) ≠ 0) ∧ (∀ j h, 1 ≤ j → j < z.sz → 1 ≤ h → h < z.sz → z.Q j = z.Q h → j = h) ∧ (∀ v, 1 ≤ v → v ≤ 400 → z.sn v ≠ 0 → (∃ j, 1 ≤ j ∧ j < z.sz ∧ d.O (z.Q j) / 2 = v) ∨ ∃ p, p < e ∧ d.L d.lev ≤ p ∧ d.O p / 2 = v) ∧ (z.op = cn (opn d z) i) ∧ (∀ j, j < z.uz → z.us j = nI (z.U j) ∧ z.U j < a.n)
theorem Jok.s1 {a : Rx} {d : Tx} {z : Lx} {i e : Nat} (h : Jok a d z i e) : 1 ≤ z.sz := h.1
theorem Jok.cd {a : Rx} {d : Tx} {z : Lx} {i e : Nat} (h : Jok a d z i e) : ∀ j, 1 ≤ j → j < z.sz → z.cd j = nI (fl (d.O (z.Q j))) ∧ z.Q j < d.k ∧ d.V (z.Q j) < d.lev ∧ z.sn (d.O (z.Q j) / 2) ≠ 0 := h.2.1
theorem Jok.ij {a : Rx} {d : Tx} {z : Lx} {i e : Nat} (h : Jok a d z i e) : ∀ j h, 1 ≤ j → j < z.sz → 1 ≤ h → h < z.sz → z.Q j = z.Q h → j = h := h.2.2.1
theorem Jok.sn {a : Rx} {d : Tx} {z : Lx} {i e : Nat} (h : Jok a d z i e) : ∀ v, 1 ≤ v → v ≤ 400 → z.sn v ≠ 0 → (∃ j, 1 ≤ j ∧ j < z.sz ∧ d.O (z.Q j) / 2 = v) ∨ ∃ p, p < e ∧ d.L d.lev ≤ p ∧ d.O p / 2 = v := h.2.2.2.1
theorem Jok.op {a : Rx} {d : Tx} {z : Lx} {i e : Nat} (h : Jok a d z i e) : z.op = cn (opn d z) i := h.2.2.2.2.1
theorem Jok.us {a : Rx} {d : Tx} {z : Lx} {i e : Nat} (h : Jok a d z i e) : ∀ j, j < z.uz → z.us j = nI (z.U j) ∧ z.U j < a.n := h.2.2.2.2.2
theorem Jok.sz {a : Rx} {d : Tx} {z : Lx} {i e : Nat} (h : Jok a d z i e) : z.sz ≤ d.k + 1 := by
  have := pg d.k (z.sz - 1) (fun j => z.Q (j + 1)) (fun j hj => (h.cd (j + 1) (by omega) (by omega)).2.1) (fun j g hj hg q => by
    have := h.ij (j + 1) (g + 1) (by omega) (by omega) (by omega) (by omega) q; omega)
  omega
/-- one more of the last level is seen -/
def Jad1 (d : Tx) (z : Lx) (q : Nat) : Lx := Lx.of (upd z.sn (d.O q / 2) 1) z.cd z.us z.sz z.uz (z.op + 1) z.Q z.U
/-- one more of a lower level is seen -/
def Jad2 (d : Tx) (z : Lx) (q : Nat) : Lx := Lx.of (upd z.sn (d.O q / 2) 1) (upd z.cd z.sz (nI (fl (d.O q)))) z.us (z.sz + 1) z.uz z.op (upN z.Q z.sz q) z.U
theorem sn_ne {f : Nat → Int32} {v x : Nat} (h : f x ≠ 0) : upd f v 1 x ≠ 0 := by
  by_cases hx : x = v
  · rw [hx, pk_us]; decide
  · rw [pk_un hx]; exact h
theorem Jok.ad1 {a : Rx} {d : Tx} {z : Lx} {i e q : Nat} (h : Jok a d z i e) (hT : Tok d) (hi : i ≤ e) (he : e ≤ d.k) (hq : q < i) (hl : d.L d.lev ≤ q) (hs : z.sn (d.O q / 2) = 0) : Jok a d (Jad1 d z q) i e := by
  refine ⟨h.s1, fun j h1 h2 => ?_, h.ij, fun v h1 h2 h3 => ?_, ?_, h.us⟩
  · obtain ⟨c1, c2, c3, c4⟩ := h.cd j h1 h2; exact ⟨c1, c2, c3, sn_ne c4⟩
  · have h3 : upd z.sn (d.O q / 2) 1 v ≠ 0 := h3
    by_cases hv : v = d.O q / 2
    · exact Or.inr ⟨q, by omega, hl, hv.symm⟩
    · rw [pk_un hv] at h3; exact h.sn v h1 h2 h3
  · show z.op + 1 = _
    rw [h.op]
    refine (cn_up (q := q) hq (fun p hp hne => ?_) ?_ ?_).symm
    · exact opn_eq (pk_un (fun e1 => hne (hT.ds p q (by omega) (by omega) e1)))
    · exact decide_eq_false (fun x => x.2 hs)
    · exact decide_eq_true ⟨hl, by show upd z.sn (d.O q / 2) 1 (d.O q / 2) ≠ 0; rw [pk_us]; decide⟩
theorem Jok.ad2 {a : Rx} {d : Tx} {z : Lx} {i e q : Nat} (h : Jok a d z i e) (hT : Tok d) (hi : i ≤ e) (he : e ≤ d.k) (hq : q < d.k) (hl : ¬ d.L d.lev ≤ q) (hv : d.V q < d.lev) (hs : z.sn (d.O q / 2) = 0) : Jok a d (Jad2 d z q) i e := by
  have hQ : ∀ j, j < z.sz → (Jad2 d z q).Q j = z.Q j := fun j hj => upN_n (by omega)
  have hQs : (Jad2 d z q).Q z.sz = q := upN_s
  have hc : ∀ j, j < (Jad2 d z q).sz → j < z.sz ∨ j = z.sz := fun j hj => by have hj : j < z.sz + 1 := hj; omega
  have hnew : ∀ j, 1 ≤ j → j < z.sz → z.Q j ≠ q := fun j h1 h2 e1 => (h.cd j h1 h2).2.2.2 (by rw [e1]; exact hs)
  refine ⟨Nat.le_succ_of_le h.s1, fun j h1 h2 => ?_, fun j g h1 h2 g1 g2 e1 => ?_, fun v h1 h2 h3 => ?_, ?_, h.us⟩
  · rcases hc j h2 with x | x
    · rw [hQ j x]; obtain ⟨c1, c2, c3, c4⟩ := h.cd j h1 x
      exact ⟨(pk_un (show j ≠ z.sz by omega)).trans c1, c2, c3, sn_ne c4⟩
    · rw [x, hQs]; exact ⟨pk_us, hq, hv, by show upd z.sn (d.O q / 2) 1 (d.O q / 2) ≠ 0; rw [pk_us]; decide⟩
  · rcases hc j h2 with x | x <;> rcases hc g g2 with y | y
    · rw [hQ j x, hQ g y] at e1; exact h.ij j g h1 x g1 y e1
    · rw [hQ j x, y, hQs] at e1; exact absurd e1 (hnew j h1 x)
    · rw [hQ g y, x, hQs] at e1; exact absurd e1.symm (hnew g g1 y)
    · omega
  · have h3 : upd z.sn (d.O q / 2) 1 v ≠ 0 := h3
    by_cases hw : v = d.O q / 2
    · exact Or.inl ⟨z.sz, h.s1, Nat.lt_succ_self _, by rw [hQs]; exact hw.symm⟩
    · rw [pk_un hw] at h3
      rcases h.sn v h1 h2 h3 with ⟨j, j1, j2, j3⟩ | y
      · exact Or.inl ⟨j, j1, Nat.lt_succ_of_lt j2, by rw [hQ j j2]; exact j3⟩
      · exact Or.inr y
  · show z.op = _
    rw [h.op]
    refine cn_congr (fun p hp => ?_)
    by_cases hpq : p = q
    · subst hpq; rw [opn_no hl, opn_no hl]
    · refine Eq.symm (opn_eq ?_)
      exact pk_un (fun e1 => hpq (hT.ds p q (by omega) (by omega) e1))
/-- what is still unseen of row r lies below i -/
def Jrow (a : Rx) (d : Tx) (z : Lx) (r i : Nat) : Prop := ∀ j, a.S r ≤ j → j < a.S (r + 1) → z.sn (a.C j / 2) = 0 → ∃ q, q < i ∧ d.O q = fl (a.C j)
theorem Jrow.up {a : Rx} {d : Tx} {z z' : Lx} {r i q : Nat} (h : Jrow a d z r i) (e : z'.sn = upd z.sn (d.O q / 2) 1) : Jrow a d z' r i := fun j h1 h2 h3 => h j h1 h2 (by
  rw [e] at h3
  by_cases hx : a.C j / 2 = d.O q / 2
  · rw [hx, pk_us] at h3; exact absurd h3 (by decide)
  · rwa [pk_un hx] at h3)
theorem jm_up {f : Nat → Int32} {c o : Nat} (e : o = fl c) : c / 2 = o / 2 ∧ c = fl o := by subst e; exact ⟨(fl_var c).symm, (fl_fl c).symm⟩
theorem Jok.usd {a : Rx} {d : Tx} {z : Lx} {i e r : Nat} (h : Jok a d z i e) (hr : r < a.n) : Jok a d (Lx.of z.sn z.cd (upd z.us z.uz (nI r)) z.sz (z.uz + 1) z.op z.Q (upN z.U z.uz r)) i e := by
  refine ⟨h.s1, h.cd, h.ij, h.sn, h.op, fun j hj => ?_⟩
  have hj : j < z.uz + 1 := hj
  show upd z.us z.uz (nI r) j = nI (upN z.U z.uz r j) ∧ upN z.U z.uz r j < a.n
  by_cases hq : j = z.uz
  · rw [hq, pk_us, upN_s]; exact ⟨rfl, hr⟩
  · rw [pk_un hq, upN_n hq]; exact h.us j (by omega)
/-- a lesson that is being finished: the codes below x are through -/
def Eok (a : Rx) (d : Tx) (z : Lx) (x : Nat) : Prop := (1 ≤ z.sz) ∧ (z.sz ≤ 401) ∧ (∀ j, 1 ≤ j → j < z.sz → z.cd j = nI (fl (d.O (z.Q j))) ∧ z.Q j < d.k ∧ d.V (z.Q j) < d.lev) ∧ (∀ j h, 1 ≤ j → j < z.sz → 1 ≤ h → h < z.sz → z.Q j = z.Q h → j = h) ∧ (∀ v, 1 ≤ v → v ≤ 400 → z.sn v ≠ 0 → ∃ j, x ≤ j ∧ j < z.sz ∧ d.O (z.Q j) / 2 = v) ∧ (∀ j, 1 ≤ j → j < x → d.V (z.Q j) ≤ d.V (z.Q 1)) ∧ (∃ p, p < d.k ∧ d.L d.lev ≤ p ∧ z.cd 0 = nI (fl (d.O p))) ∧ (∀ j, j < z.uz → z.us j = nI (z.U j) ∧ z.U j < a.n)
theorem Eok.s1 {a : Rx} {d : Tx} {z : Lx} {x : Nat} (h : Eok a d z x) : 1 ≤ z.sz := h.1
theorem Eok.s4 {a : Rx} {d : Tx} {z : Lx} {x : Nat} (h : Eok a d z x) : z.sz ≤ 401 := h.2.1
theorem Eok.cd {a : Rx} {d : Tx} {z : Lx} {x : Nat} (h : Eok a d z x) : ∀ j, 1 ≤ j → j < z.sz → z.cd j = nI (fl (d.O (z.Q j))) ∧ z.Q j < d.k ∧ d.V (z.Q j) < d.lev := h.2.2.1
theorem Eok.ij {a : Rx} {d : Tx} {z : Lx} {x : Nat} (h : Eok a d z x) : ∀ j h, 1 ≤ j → j < z.sz → 1 ≤ h → h < z.sz → z.Q j = z.Q h → j = h := h.2.2.2.1
theorem Eok.sn {a : Rx} {d : Tx} {z : Lx} {x : Nat} (h : Eok a d z x) : ∀ v, 1 ≤ v → v ≤ 400 → z.sn v ≠ 0 → ∃ j, x ≤ j ∧ j < z.sz ∧ d.O (z.Q j) / 2 = v := h.2.2.2.2.1
theorem Eok.mx {a : Rx} {d : Tx} {z : Lx} {x : Nat} (h : Eok a d z x) : ∀ j, 1 ≤ j → j < x → d.V (z.Q j) ≤ d.V (z.Q 1) := h.2.2.2.2.2.1
theorem Eok.c0 {a : Rx} {d : Tx} {z : Lx} {x : Nat} (h : Eok a d z x) : ∃ p, p < d.k ∧ d.L d.lev ≤ p ∧ z.cd 0 = nI (fl (d.O p)) := h.2.2.2.2.2.2.1
theorem Eok.us {a : Rx} {d : Tx} {z : Lx} {x : Nat} (h : Eok a d z x) : ∀ j, j < z.uz → z.us j = nI (z.U j) ∧ z.U j < a.n := h.2.2.2.2.2.2.2
def Ekp (d : Tx) (z : Lx) (x : Nat) : Lx := Lx.of (upd z.sn (d.O (z.Q x) / 2) 0) z.cd z.us z.sz z.uz z.op z.Q z.U
def Esw (d : Tx) (z : Lx) (x : Nat) : Lx := Lx.of (upd z.sn (d.O (z.Q x) / 2) 0) (upd (upd z.cd x (nI (fl (d.O (z.Q 1))))) 1 (nI (fl (d.O (z.Q x))))) z.us z.sz z.uz z.op (upN (upN z.Q x (z.Q 1)) 1 (z.Q x)) z.U
theorem Eok.keep {a : Rx} {d : Tx} {z : Lx} {x : Nat} (h : Eok a d z x) (h1 : 1 ≤ x) (h2 : x < z.sz) (h3 : d.V (z.Q x) ≤ d.V (z.Q 1)) : Eok a d (Ekp d z x) (x + 1) := by
  refine ⟨h.s1, h.s4, h.cd, h.ij, fun v v1 v2 v3 => ?_, fun j j1 j2 => ?_, h.c0, h.us⟩
  · have v3 : upd z.sn (d.O (z.Q x) / 2) 0 v ≠ 0 := v3
    by_cases hv : v = d.O (z.Q x) / 2
    · rw [hv, pk_us] at v3; exact absurd rfl v3
    · rw [pk_un hv] at v3
      obtain ⟨j, j1, j2, j3⟩ := h.sn v v1 v2 v3
      refine ⟨j, ?_, j2, j3⟩
      rcases Nat.lt_or_eq_of_le j1 with q | q
      · exact q
      · subst q; exact absurd j3.symm hv
  · rcases Nat.lt_or_eq_of_le (Nat.le_of_lt_succ j2) with q | q
    · exact h.mx j j1 q
    · rw [q]; exact h3
theorem Eok.swap {a : Rx} {d : Tx} {z : Lx} {x : Nat} (h : Eok a d z x) (h1 : 1 ≤ x) (h2 : x < z.sz) (h3 : d.V (z.Q 1) ≤ d.V (z.Q x)) : Eok a d (Esw d z x) (x + 1) := by
  have q1 : (Esw d z x).Q 1 = z.Q x := by show upN (upN z.Q x (z.Q 1)) 1 (z.Q x) 1 = _; exact upN_s
  have qx : x ≠ 1 → (Esw d z x).Q x = z.Q 1 := fun q => by show upN (upN z.Q x (z.Q 1)) 1 (z.Q x) x = _; rw [upN_n q, upN_s]
  have qo : ∀ j, j ≠ 1 → j ≠ x → (Esw d z x).Q j = z.Q j := fun j a1 a2 => by show upN (upN z.Q x (z.Q 1)) 1 (z.Q x) j = _; rw [upN_n a1, upN_n a2]
  refine ⟨h.s1, h.s4, fun j j1 j2 => ?_, fun j g j1 j2 g1 g2 e => ?_, fun v v1 v2 v3 => ?_, fun j j1 j2 => ?_, ?_, h.us⟩
  · by_cases a1 : j = 1
    · rw [a1, q1]; exact ⟨by show upd (upd z.cd x (nI (fl (d.O (z.Q 1))))) 1 (nI (fl (d.O (z.Q x)))) 1 = _; exact pk_us, (h.cd x h1 h2).2⟩
    · by_cases a2 : j = x
      · rw [a2, qx (by omega)]; exact ⟨(pk_un (by omega)).trans pk_us, (h.cd 1 (Nat.le_refl _) (by omega)).2⟩
      · rw [qo j a1 a2]; exact ⟨(pk_un a1).trans ((pk_un a2).trans (h.cd j j1 j2).1), (h.cd j j1 j2).2⟩
  · have key : ∀ y, 1 ≤ y → y < z.sz → ∃ y', 1 ≤ y' ∧ y' < z.sz ∧ (Esw d z x).Q y = z.Q y' ∧ y' = (if y = 1 then x else if y = x then 1 else y) := fun y y1 y2 => by
      by_cases a1 : y = 1
      · exact ⟨x, h1, h2, by rw [a1, q1], by rw [if_pos a1]⟩
      · by_cases a2 : y = x
        · exact ⟨1, Nat.le_refl _, by omega, by rw [a2, qx (by omega)], by rw [if_neg a1, if_pos a2]⟩
        · exact ⟨y, y1, y2, qo y a1 a2, by rw [if_neg a1, if_neg a2]⟩
    obtain ⟨j', b1, b2, b3, b4⟩ := key j j1 j2
    obtain ⟨g', c1, c2, c3, c4⟩ := key g g1 g2
    rw [b3, c3] at e
    have := h.ij j' g' b1 b2 c1 c2 e
    rw [b4, c4] at this
    split at this <;> split at this <;> (try split at this) <;> (try split at this) <;> omega
  · have v3 : upd z.sn (d.O (z.Q x) / 2) 0 v ≠ 0 := v3
    by_cases hv : v = d.O (z.Q x) / 2
    · rw [hv, pk_us] at v3; exact absurd rfl v3
    · rw [pk_un hv] at v3
      obtain ⟨j, j1, j2, j3⟩ := h.sn v v1 v2 v3
      rcases Nat.lt_or_eq_of_le j1 with q | q
      · exact ⟨j, q, j2, by rw [qo j (by omega) (by omega)]; exact j3⟩
      · subst q; exact absurd j3.symm hv
  · rw [q1]
    by_cases a1 : j = 1
    · rw [a1, q1]; exact Nat.le_refl _
    · by_cases a2 : j = x
      · rw [a2, qx (by omega)]; exact h3
      · rw [qo j a1 a2]; exact Nat.le_trans (h.mx j j1 (by omega)) h3
  · obtain ⟨p, p1, p2, p3⟩ := h.c0
    exact ⟨p, p1, p2, by show upd (upd z.cd x (nI (fl (d.O (z.Q 1))))) 1 (nI (fl (d.O (z.Q x)))) 0 = _; rw [pk_un (by omega), pk_un (by omega)]; exact p3⟩
def Jdec (z : Lx) : Lx := Lx.of z.sn z.cd z.us z.sz z.uz (z.op - 1) z.Q z.U
def Jclr (d : Tx) (z : Lx) (i : Nat) : Lx := Lx.of (upd z.sn (d.O i / 2) 0) z.cd z.us z.sz z.uz z.op z.Q z.U
def Jfst (d : Tx) (z : Lx) (i : Nat) : Lx := Lx.of z.sn (upd z.cd 0 (nI (fl (d.O i)))) z.us z.sz z.uz z.op z.Q z.U
theorem Jok.lev {a : Rx} {d : Tx} {z : Lx} {i e : Nat} (h : Jok a d z (i + 1) e) (ho : 0 < z.op) : d.L d.lev ≤ i := by
  rw [h.op] at ho
  obtain ⟨p, p1, p2⟩ := cn_pos ho
  have := (of_decide_eq_true p2).1; omega
theorem Jok.dec {a : Rx} {d : Tx} {z : Lx} {i e : Nat} (h : Jok a d z (i + 1) e) (hl : d.L d.lev ≤ i) (hs : z.sn (d.O i / 2) ≠ 0) : Jok a d (Jdec z) i e := by
  refine ⟨h.s1, h.cd, h.ij, h.sn, ?_, h.us⟩
  show z.op - 1 = cn (opn d z) i
  have h1 : z.op = cn (opn d z) i + (if opn d z i = true then 1 else 0) := h.op
  have ho : opn d z i = true := decide_eq_true ⟨hl, hs⟩
  rw [if_pos ho] at h1; omega
theorem Jok.skip {a : Rx} {d : Tx} {z : Lx} {i : Nat} (h : Jok a d z (i + 1) (i + 1)) (hs : z.sn (d.O i / 2) = 0) : Jok a d z i i := by
  refine ⟨h.s1, h.cd, h.ij, fun v v1 v2 v3 => ?_, ?_, h.us⟩
  · rcases h.sn v v1 v2 v3 with x | ⟨p, p1, p2, p3⟩
    · exact Or.inl x
    · refine Or.inr ⟨p, ?_, p2, p3⟩
      rcases Nat.lt_or_eq_of_le (Nat.le_of_lt_succ p1) with q | q
      · exact q
      · subst q; rw [p3] at hs; exact absurd hs v3
  · have h1 : z.op = cn (opn d z) i + (if opn d z i = true then 1 else 0) := h.op
    rw [if_neg (fun x => (of_decide_eq_true x).2 hs)] at h1; omega
theorem Jok.clr {a : Rx} {d : Tx} {z : Lx} {i : Nat} (h : Jok a d z i (i + 1)) (hT : Tok d) (hL : Lok d) (hlev : 1 ≤ d.lev) (hi : i < d.k) (hl : d.L d.lev ≤ i) : Jok a d (Jclr d z i) i i := by
  have hVi := (hL.vs i d.lev hi hlev (Nat.le_refl _)).mp hl
  refine ⟨h.s1, fun j j1 j2 => ?_, h.ij, fun v v1 v2 v3 => ?_, ?_, h.us⟩
  · obtain ⟨c1, c2, c3, c4⟩ := h.cd j j1 j2
    refine ⟨c1, c2, c3, ?_⟩
    show upd z.sn (d.O i / 2) 0 (d.O (z.Q j) / 2) ≠ 0
    rw [pk_un (fun e => by have e2 := hT.ds _ _ c2 hi e; have e3 : d.V (z.Q j) = d.V i := congrArg d.V e2; omega)]; exact c4
  · have v3 : upd z.sn (d.O i / 2) 0 v ≠ 0 := v3
    by_cases hv : v = d.O i / 2
    · rw [hv, pk_us] at v3; exact absurd rfl v3
    · rw [pk_un hv] at v3
      rcases h.sn v v1 v2 v3 with x | ⟨p, p1, p2, p3⟩
      · exact Or.inl x
      · refine Or.inr ⟨p, ?_, p2, p3⟩
        rcases Nat.lt_or_eq_of_le (Nat.le_of_lt_succ p1) with q | q
        · exact q
        · subst q; exact absurd p3.symm hv
  · show z.op = _
    rw [h.op]
    refine cn_congr (fun p hp => Eq.symm (opn_eq ?_))
    exact pk_un (fun e => by have := hT.ds p i (by omega) hi e; omega)
theorem Jok.fst {a : Rx} {d : Tx} {z : Lx} {i e x : Nat} (h : Jok a d z i e) : Jok a d (Jfst d z x) i e :=
  ⟨h.s1, fun j j1 j2 => ⟨(pk_un (by omega)).trans (h.cd j j1 j2).1, (h.cd j j1 j2).2⟩, h.ij, h.sn, h.op, h.us⟩
theorem Jok.why {a : Rx} {d : Tx} {z : Lx} {i : Nat} (h : Jok a d z i (i + 1)) (hZ : Sok a d) (hL : Lok d) (hlev : 1 ≤ d.lev) (hi : i < d.k) (hl : d.L d.lev ≤ i) (ho : 0 < z.op) (hs : z.sn (d.O i / 2) ≠ 0) : ∃ r, r < a.n ∧ d.rv (d.O i / 2) = nI r ∧ Jrow a d z r i := by
  have hVi := (hL.vs i d.lev hi hlev (Nat.le_refl _)).mp hl
  have hVl := (hL.lv i hi).2
  rw [h.op] at ho
  obtain ⟨p, p1, p2⟩ := cn_pos ho
  have p3 := (of_decide_eq_true p2).1
  rcases hZ i hi with ⟨_, r2⟩ | ⟨r, r1, r2, _, r4⟩
  · exfalso
    have e : d.V i = d.lev := by omega
    rw [e] at r2; omega
  · refine ⟨r, r1, r2, fun j j1 j2 j3 => r4 j j1 j2 (fun e => hs (by rw [← e]; exact j3))⟩
theorem Jok.zero {a : Rx} {d : Tx} {z : Lx} (hT : Tok d) (h0 : ∀ v, 1 ≤ v → v ≤ 400 → z.sn v = 0) : Jok a d (Lx.of z.sn z.cd z.us 1 0 0 z.Q z.U) d.k d.k := by
  refine ⟨Nat.le_refl _, fun j j1 j2 => absurd j2 (by show ¬ j < 1; omega), fun j g j1 j2 => absurd j2 (by show ¬ j < 1; omega), fun v v1 v2 v3 => absurd (h0 v v1 v2) v3, ?_, fun j hj => absurd hj (Nat.not_lt_zero _)⟩
  show 0 = _
  rcases Nat.eq_zero_or_pos (cn (opn d (Lx.of z.sn z.cd z.us 1 0 0 z.Q z.U)) d.k) with q | q
  · exact q.symm
  · obtain ⟨p, p1, p2⟩ := cn_pos q
    have := (hT.ov p p1).2
    exact absurd (h0 (d.O p / 2) (by omega) (by omega)) (of_decide_eq_true p2).2
theorem Jok.pos {a : Rx} {d : Tx} {z : Lx} {r : Nat} (h : Jok a d z d.k d.k) (hb : Bad a d r) (hlev : 1 ≤ d.lev) (hs : ∀ j, a.S r ≤ j → j < a.S (r + 1) → z.sn (a.C j / 2) ≠ 0) : 0 < z.op := by
  obtain ⟨_, _, j, p, j1, j2, p1, p2, p3⟩ := hb
  rw [h.op]
  refine cn_ge p1 (decide_eq_true ⟨p3 hlev, ?_⟩)
  rw [p2, fl_var]; exact hs j j1 j2
theorem Bad.row {a : Rx} {d : Tx} {r : Nat} (h : Bad a d r) (hR : Rok a) (hT : Tok d) (z : Lx) : Jrow a d z r d.k := fun j j1 j2 _ => by
  obtain ⟨i1, i2, i3, i4, i5, i6⟩ := hR.inb h.1
  have hc := (hR.cf j (by omega)).2
  exact hT.no hc.1 hc.2 (h.2.1 j j1 j2)
theorem Jok.fin {a : Rx} {d : Tx} {z : Lx} {e : Nat} (h : Jok a d z e e) (hT : Tok d) (ho : z.op = 0) (h0 : ∃ p, p < d.k ∧ d.L d.lev ≤ p ∧ z.cd 0 = nI (fl (d.O p))) : Eok a d z 1 := by
  have hk := hT.k400; have hz := h.sz
  refine ⟨h.s1, by omega, fun j j1 j2 => ⟨(h.cd j j1 j2).1, (h.cd j j1 j2).2.1, (h.cd j j1 j2).2.2.1⟩, h.ij, fun v v1 v2 v3 => ?_, fun j j1 j2 => absurd j2 (by omega), h0, h.us⟩
  rcases h.sn v v1 v2 v3 with x | ⟨p, p1, p2, p3⟩
  · exact x
  · exfalso
    have := cn_ge (P := opn d z) p1 (decide_eq_true ⟨p2, by rw [p3]; exact v3⟩)
    rw [← h.op] at this; omega
def jm (e : Nat) : Int32 := if e = 0 then -1 else nI (e - 1)
theorem jm_dec (i : Nat) : nI i + Int32.ofInt (-1) = jm i := by
  unfold jm
  by_cases h : i = 0
  · rw [if_pos h, h]; decide
  · rw [if_neg h]; exact ni_dec i (by omega)
theorem jm_sub {k : Nat} (h : 0 < k) : nI (k - 1) = jm k := by unfold jm; rw [if_neg (by omega)]
theorem jm_s (i : Nat) : jm (i + 1) = nI i := by unfold jm; rw [if_neg (by omega)]; rfl
theorem Jok.opm {a : Rx} {d : Tx} {z y : Lx} {i e : Nat} (h : Jok a d y i e) (h1 : Jok a d z i e) (hm : ∀ v, z.sn v ≠ 0 → y.sn v ≠ 0) (ho : 0 < z.op) : 0 < y.op := by
  rw [h1.op] at ho
  obtain ⟨p, p1, p2⟩ := cn_pos ho
  have p3 := of_decide_eq_true p2
  rw [h.op]
  exact cn_ge p1 (decide_eq_true ⟨p3.1, hm _ p3.2⟩)
