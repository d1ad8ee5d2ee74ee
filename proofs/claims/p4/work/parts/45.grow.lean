/-- kinds, lengths and how many rows of each kind -/
def isK (f : Nat → Int32) (k : Int32) : Nat → Bool := fun r => decide (f r = k)
def lenK (x : Int32) : Nat := if x = 1 then 401 else 20
def Nok (a : Rx) (g l : Nat) : Prop := (a.S 0 = 0) ∧ (∀ r, r < a.n → a.kf r = 0 ∨ a.kf r = 1) ∧ (∀ r, r < a.n → a.S (r + 1) ≤ a.S r + lenK (a.kf r)) ∧ (cn (isK a.kf 0) a.n = g) ∧ (cn (isK a.kf 1) a.n = l)
theorem Nok.z0 {a : Rx} {g l : Nat} (h : Nok a g l) : a.S 0 = 0 := h.1
theorem Nok.kd {a : Rx} {g l : Nat} (h : Nok a g l) : ∀ r, r < a.n → a.kf r = 0 ∨ a.kf r = 1 := h.2.1
theorem Nok.ln {a : Rx} {g l : Nat} (h : Nok a g l) : ∀ r, r < a.n → a.S (r + 1) ≤ a.S r + lenK (a.kf r) := h.2.2.1
theorem Nok.c0 {a : Rx} {g l : Nat} (h : Nok a g l) : cn (isK a.kf 0) a.n = g := h.2.2.2.1
theorem Nok.c1 {a : Rx} {g l : Nat} (h : Nok a g l) : cn (isK a.kf 1) a.n = l := h.2.2.2.2
theorem cn_two {f : Nat → Int32} : ∀ {n : Nat}, (∀ r, r < n → f r = 0 ∨ f r = 1) → cn (isK f 0) n + cn (isK f 1) n = n := by
  intro n
  induction n with
  | zero => intro _; rfl
  | succ n ih =>
    intro h
    have h1 := ih (fun r hr => h r (by omega))
    show cn (isK f 0) n + (if isK f 0 n = true then 1 else 0) + (cn (isK f 1) n + (if isK f 1 n = true then 1 else 0)) = n + 1
    rcases h n (Nat.lt_succ_self n) with q | q
    · have e1 : isK f 0 n = true := decide_eq_true q
      have e2 : ¬ isK f 1 n = true := fun x => by have := of_decide_eq_true x; rw [q] at this; exact absurd this (by decide)
      rw [if_pos e1, if_neg e2]; omega
    · have e1 : isK f 1 n = true := decide_eq_true q
      have e2 : ¬ isK f 0 n = true := fun x => by have := of_decide_eq_true x; rw [q] at this; exact absurd this (by decide)
      rw [if_pos e1, if_neg e2]; omega
theorem nk_sum {S : Nat → Nat} {f : Nat → Int32} : ∀ {n : Nat}, S 0 = 0 → (∀ r, r < n → f r = 0 ∨ f r = 1) → (∀ r, r < n → S (r + 1) ≤ S r + lenK (f r)) → S n ≤ 20 * cn (isK f 0) n + 401 * cn (isK f 1) n := by
  intro n
  induction n with
  | zero => intro h _ _; rw [h]; exact Nat.zero_le _
  | succ n ih =>
    intro h h1 h2
    have h3 := ih h (fun r hr => h1 r (by omega)) (fun r hr => h2 r (by omega))
    have h4 := h2 n (Nat.lt_succ_self n)
    show S (n + 1) ≤ 20 * (cn (isK f 0) n + (if isK f 0 n = true then 1 else 0)) + 401 * (cn (isK f 1) n + (if isK f 1 n = true then 1 else 0))
    rcases h1 n (Nat.lt_succ_self n) with q | q
    · have e1 : isK f 0 n = true := decide_eq_true q
      have e3 : lenK (f n) = 20 := by rw [q]; rfl
      rw [if_pos e1]; omega
    · have e1 : isK f 1 n = true := decide_eq_true q
      have e3 : lenK (f n) = 401 := by rw [q]; rfl
      rw [if_pos e1]; omega
theorem Nok.n {a : Rx} {g l : Nat} (h : Nok a g l) : a.n = g + l := by have := cn_two h.kd; rw [h.c0, h.c1] at this; omega
theorem Nok.sum {a : Rx} {g l : Nat} (h : Nok a g l) : a.S a.n ≤ 20 * g + 401 * l := by have := nk_sum h.z0 h.kd h.ln; rwa [h.c0, h.c1] at this
/-- those that P holds of, one after the other -/
theorem cn_enum {P : Nat → Bool} : ∀ n, ∃ e : Nat → Nat, (∀ i, i < cn P n → e i < n ∧ P (e i) = true) ∧ ∀ i j, i < cn P n → j < cn P n → e i = e j → i = j := by
  intro n
  induction n with
  | zero => exact ⟨fun _ => 0, fun i hi => absurd hi (Nat.not_lt_zero _), fun i j hi => absurd hi (Nat.not_lt_zero _)⟩
  | succ n ih =>
    obtain ⟨e, h1, h2⟩ := ih
    by_cases hp : P n = true
    · have hc : cn P (n + 1) = cn P n + 1 := by show cn P n + (if P n = true then 1 else 0) = _; rw [if_pos hp]
      refine ⟨upN e (cn P n) n, fun i hi => ?_, fun i j hi hj q => ?_⟩
      · rw [hc] at hi
        by_cases hq : i = cn P n
        · rw [hq, upN_s]; exact ⟨Nat.lt_succ_self n, hp⟩
        · rw [upN_n hq]; have := h1 i (by omega); exact ⟨by omega, this.2⟩
      · rw [hc] at hi hj
        by_cases a1 : i = cn P n <;> by_cases a2 : j = cn P n
        · omega
        · rw [a1, upN_s, upN_n a2] at q; have := h1 j (by omega); omega
        · rw [a2, upN_s, upN_n a1] at q; have := h1 i (by omega); omega
        · rw [upN_n a1, upN_n a2] at q; exact h2 i j (by omega) (by omega) q
    · have hc : cn P (n + 1) = cn P n := by show cn P n + (if P n = true then 1 else 0) = _; rw [if_neg hp]; rfl
      refine ⟨e, fun i hi => ?_, fun i j hi hj q => ?_⟩
      · rw [hc] at hi; have := h1 i hi; exact ⟨by omega, this.2⟩
      · rw [hc] at hi hj; exact h2 i j hi hj q
theorem cn_inj {P : Nat → Bool} {n m : Nat} (f : Nat → Nat) (h1 : ∀ r, r < n → P r = true → f r < m) (h2 : ∀ r q, r < n → q < n → P r = true → P q = true → f r = f q → r = q) : cn P n ≤ m := by
  obtain ⟨e, e1, e2⟩ := cn_enum (P := P) n
  refine pg m (cn P n) (fun i => f (e i)) (fun i hi => h1 _ (e1 i hi).1 (e1 i hi).2) (fun i j hi hj q => ?_)
  exact e2 i j hi hj (h2 _ _ (e1 i hi).1 (e1 j hj).1 (e1 i hi).2 (e1 j hj).2 q)
/-- row r is the reason of the truth at p -/
def Rc (a : Rx) (d : Tx) (r p : Nat) : Prop := (a.C (a.S r) = d.O p ∨ a.C (a.S r + 1) = d.O p) ∧ ∀ j, a.S r ≤ j → j < a.S (r + 1) → a.C j ≠ d.O p → ∃ q, q < p ∧ d.O q = fl (a.C j)
/-- rows below r have been moved: pl of them are kept -/
def Mv (a b : Rx) (r pl : Nat) : Prop := (pl ≤ r ∧ r ≤ a.n) ∧ (b.S pl ≤ a.S r) ∧ (b.la = a.la ∧ b.lc = a.lc ∧ b.n = a.n ∧ b.S 0 = a.S 0) ∧ (∀ j, r ≤ j → j ≤ a.n → b.sf j = nI (a.S j)) ∧ (∀ j, r ≤ j → j < a.n → b.kf j = a.kf j) ∧ (∀ j, a.S r ≤ j → j < a.S a.n → b.cf j = a.cf j) ∧ (∀ q, q ≤ pl → b.sf q = nI (b.S q)) ∧ (∀ q, q < pl → b.S q + 2 ≤ b.S (q + 1)) ∧ (∀ j, j < b.S pl → b.cf j = nI (b.C j) ∧ 2 ≤ b.C j ∧ b.C j < 802) ∧ (∀ q, q < pl → b.kf q = 0 ∨ b.kf q = 1) ∧ (∀ q, q < pl → b.S (q + 1) ≤ b.S q + lenK (b.kf q))
theorem Mv.pr {a b : Rx} {r pl : Nat} (h : Mv a b r pl) : pl ≤ r ∧ r ≤ a.n := h.1
theorem Mv.le {a b : Rx} {r pl : Nat} (h : Mv a b r pl) : b.S pl ≤ a.S r := h.2.1
theorem Mv.eq {a b : Rx} {r pl : Nat} (h : Mv a b r pl) : b.la = a.la ∧ b.lc = a.lc ∧ b.n = a.n ∧ b.S 0 = a.S 0 := h.2.2.1
theorem Mv.s1 {a b : Rx} {r pl : Nat} (h : Mv a b r pl) : ∀ j, r ≤ j → j ≤ a.n → b.sf j = nI (a.S j) := h.2.2.2.1
theorem Mv.k1 {a b : Rx} {r pl : Nat} (h : Mv a b r pl) : ∀ j, r ≤ j → j < a.n → b.kf j = a.kf j := h.2.2.2.2.1
theorem Mv.c1 {a b : Rx} {r pl : Nat} (h : Mv a b r pl) : ∀ j, a.S r ≤ j → j < a.S a.n → b.cf j = a.cf j := h.2.2.2.2.2.1
theorem Mv.s2 {a b : Rx} {r pl : Nat} (h : Mv a b r pl) : ∀ q, q ≤ pl → b.sf q = nI (b.S q) := h.2.2.2.2.2.2.1
theorem Mv.u2 {a b : Rx} {r pl : Nat} (h : Mv a b r pl) : ∀ q, q < pl → b.S q + 2 ≤ b.S (q + 1) := h.2.2.2.2.2.2.2.1
theorem Mv.c2 {a b : Rx} {r pl : Nat} (h : Mv a b r pl) : ∀ j, j < b.S pl → b.cf j = nI (b.C j) ∧ 2 ≤ b.C j ∧ b.C j < 802 := h.2.2.2.2.2.2.2.2.1
theorem Mv.kd {a b : Rx} {r pl : Nat} (h : Mv a b r pl) : ∀ q, q < pl → b.kf q = 0 ∨ b.kf q = 1 := h.2.2.2.2.2.2.2.2.2.1
theorem Mv.ln {a b : Rx} {r pl : Nat} (h : Mv a b r pl) : ∀ q, q < pl → b.S (q + 1) ≤ b.S q + lenK (b.kf q) := h.2.2.2.2.2.2.2.2.2.2
/-- the reasons while rows are moved -/
def Zf (a b : Rx) (d : Tx) (f : Nat → Int32) (r pl : Nat) : Prop := ∀ p, p < d.k → (f (d.O p / 2) = -1 ∧ (d.V p = 0 ∨ d.L (d.V p) = p)) ∨ (∃ q, q < pl ∧ f (d.O p / 2) = nI q ∧ Rc b d q p) ∨ ∃ r0, r ≤ r0 ∧ r0 < a.n ∧ f (d.O p / 2) = nI r0 ∧ Rc a d r0 p
/-- row r has become row pl -/
def Mvd (a b : Rx) (r pl : Nat) : Rx := Rx.of b.la b.lc b.n (upd b.sf (pl + 1) (nI (b.S pl + (a.S (r + 1) - a.S r)))) (upd b.kf pl (b.kf r)) (va_cpy b.cf b.cf (a.S r) (b.S pl) (a.S (r + 1) - a.S r)) (upN b.S (pl + 1) (b.S pl + (a.S (r + 1) - a.S r))) (fun j => if b.S pl ≤ j then a.C (a.S r + (j - b.S pl)) else b.C j)
theorem Mv.start {a : Rx} (h : Rok a) : Mv a a 0 0 :=
  ⟨⟨Nat.le_refl _, Nat.zero_le _⟩, Nat.le_refl _, ⟨rfl, rfl, rfl, rfl⟩, fun j _ hj => h.sf j hj, fun _ _ _ => rfl, fun _ _ _ => rfl, fun q hq => h.sf q (by omega), fun q hq => absurd hq (Nat.not_lt_zero _), fun j hj => by have := h.le (r := 0) (q := a.n) (Nat.zero_le _) (Nat.le_refl _); exact h.cf j (by omega), fun q hq => absurd hq (Nat.not_lt_zero _), fun q hq => absurd hq (Nat.not_lt_zero _)⟩
theorem Mv.drop {a b : Rx} {r pl : Nat} (h : Mv a b r pl) (hR : Rok a) (hr : r < a.n) : Mv a b (r + 1) pl := by
  have h1 := hR.up r hr; have h2 := h.pr; have h3 := h.le
  exact ⟨⟨by omega, by omega⟩, by omega, h.eq, fun j j1 j2 => h.s1 j (by omega) j2, fun j j1 j2 => h.k1 j (by omega) j2, fun j j1 j2 => h.c1 j (by omega) j2, h.s2, h.u2, h.c2, h.kd, h.ln⟩
theorem Mv.keep {a b : Rx} {r pl g l : Nat} (h : Mv a b r pl) (hR : Rok a) (hN : Nok a g l) (hr : r < a.n) : Mv a (Mvd a b r pl) (r + 1) (pl + 1) := by
  obtain ⟨i1, i2, i3, i4, i5, i6⟩ := hR.inb hr
  have h2 := h.pr; have h3 := h.le
  have eS : ∀ q, q ≤ pl → (Mvd a b r pl).S q = b.S q := fun q hq => upN_n (by omega)
  have eSn : (Mvd a b r pl).S (pl + 1) = b.S pl + (a.S (r + 1) - a.S r) := upN_s
  have eK : ∀ q, q ≠ pl → (Mvd a b r pl).kf q = b.kf q := fun q hq => pk_un hq
  have eKn : (Mvd a b r pl).kf pl = b.kf r := pk_us
  have hk := h.k1 r (Nat.le_refl _) hr
  refine ⟨⟨by omega, by omega⟩, by rw [eSn]; omega, ⟨h.eq.1, h.eq.2.1, h.eq.2.2.1, by rw [eS 0 (Nat.zero_le _)]; exact h.eq.2.2.2⟩, fun j j1 j2 => ?_, fun j j1 j2 => ?_, fun j j1 j2 => ?_, fun q hq => ?_, fun q hq => ?_, fun j hj => ?_, fun q hq => ?_, fun q hq => ?_⟩
  · show upd b.sf (pl + 1) _ j = _
    by_cases hq : j = pl + 1
    · have e1 : pl = r := by omega
      subst e1
      have q1 := h.s2 pl (Nat.le_refl _); have q2 := h.s1 pl (Nat.le_refl _) (by omega)
      have e2 := (nI_eq (by omega) (by omega)).mp (q1.symm.trans q2)
      rw [hq, pk_us, e2]; congr 1; omega
    · rw [pk_un hq]; exact h.s1 j (by omega) j2
  · rw [eK j (by omega)]; exact h.k1 j (by omega) j2
  · show va_cpy b.cf b.cf (a.S r) (b.S pl) (a.S (r + 1) - a.S r) j = _
    rw [pk_cpy_out (Or.inr (by omega))]; exact h.c1 j (by omega) j2
  · show upd b.sf (pl + 1) _ q = _
    by_cases hq2 : q = pl + 1
    · rw [hq2, pk_us, eSn]
    · rw [pk_un hq2, eS q (by omega)]; exact h.s2 q (by omega)
  · by_cases hq2 : q = pl
    · rw [hq2, eSn, eS pl (Nat.le_refl _)]; omega
    · rw [eS q (by omega), eS (q + 1) (by omega)]; exact h.u2 q (by omega)
  · rw [eSn] at hj
    show va_cpy b.cf b.cf (a.S r) (b.S pl) (a.S (r + 1) - a.S r) j = nI (if b.S pl ≤ j then a.C (a.S r + (j - b.S pl)) else b.C j) ∧ 2 ≤ (if b.S pl ≤ j then a.C (a.S r + (j - b.S pl)) else b.C j) ∧ (if b.S pl ≤ j then a.C (a.S r + (j - b.S pl)) else b.C j) < 802
    by_cases hq : b.S pl ≤ j
    · rw [if_pos hq, pk_cpy_in hq (by omega), h.c1 _ (by omega) (by omega)]; exact hR.cf _ (by omega)
    · rw [if_neg hq, pk_cpy_out (Or.inl (by omega))]; exact h.c2 j (by omega)
  · by_cases hq2 : q = pl
    · rw [hq2, eKn, hk]; exact hN.kd r hr
    · rw [eK q hq2]; exact h.kd q (by omega)
  · by_cases hq2 : q = pl
    · rw [hq2, eSn, eS pl (Nat.le_refl _), eKn, hk]; have := hN.ln r hr; omega
    · rw [eS q (by omega), eS (q + 1) (by omega), eK q hq2]; exact h.ln q (by omega)
theorem Mvd.old {a b : Rx} {d : Tx} {r pl q p : Nat} (h : Mv a b r pl) (hq : q < pl) (hc : Rc b d q p) : Rc (Mvd a b r pl) d q p := by
  have eS : ∀ q, q ≤ pl → (Mvd a b r pl).S q = b.S q := fun q hq => upN_n (by omega)
  have hm : ∀ e q, q + e ≤ pl → b.S q ≤ b.S (q + e) := by
    intro e
    induction e with
    | zero => intro q _; exact Nat.le_refl _
    | succ e ih => intro q he; have := ih q (by omega); have := h.u2 (q + e) (by omega); rw [show q + (e + 1) = q + e + 1 by omega]; omega
  have h1 := h.u2 q hq; have h2 := hm (pl - (q + 1)) (q + 1) (by omega); rw [show q + 1 + (pl - (q + 1)) = pl by omega] at h2
  have eC : ∀ j, j < b.S (q + 1) → (Mvd a b r pl).C j = b.C j := fun j hj => by
    show (if b.S pl ≤ j then a.C (a.S r + (j - b.S pl)) else b.C j) = _; rw [if_neg (by omega)]
  refine ⟨?_, fun j j1 j2 j3 => ?_⟩
  · rw [eS q (by omega), eC _ (by omega), eC _ (by omega)]; exact hc.1
  · rw [eS q (by omega)] at j1; rw [eS (q + 1) (by omega)] at j2; rw [eC j j2] at j3 ⊢; exact hc.2 j j1 j2 j3
theorem Mvd.new {a b : Rx} {d : Tx} {r pl p : Nat} (hR : Rok a) (hr : r < a.n) (hc : Rc a d r p) : Rc (Mvd a b r pl) d pl p := by
  have h1 := hR.up r hr
  have eS : (Mvd a b r pl).S pl = b.S pl := upN_n (by omega)
  have eSn : (Mvd a b r pl).S (pl + 1) = b.S pl + (a.S (r + 1) - a.S r) := upN_s
  have eC : ∀ j, b.S pl ≤ j → (Mvd a b r pl).C j = a.C (a.S r + (j - b.S pl)) := fun j hj => by
    show (if b.S pl ≤ j then a.C (a.S r + (j - b.S pl)) else b.C j) = _; rw [if_pos hj]
  refine ⟨?_, fun j j1 j2 j3 => ?_⟩
  · rw [eS, eC _ (Nat.le_refl _), eC _ (by omega), show a.S r + (b.S pl - b.S pl) = a.S r by omega, show a.S r + (b.S pl + 1 - b.S pl) = a.S r + 1 by omega]; exact hc.1
  · rw [eS] at j1; rw [eSn] at j2; rw [eC j j1] at j3 ⊢; exact hc.2 _ (by omega) (by omega) j3
/-- no truth has row r as its reason -/
theorem Zf.none {a b : Rx} {d : Tx} {f : Nat → Int32} {r pl : Nat} (h : Zf a b d f r pl) (hT : Tok d) (hR : Rok a) (hr : r < a.n) (hn : ∀ j, a.S r ≤ j → j < a.S r + 2 → ¬ (d.tv (a.C j) = 1 ∧ f (a.C j / 2) = nI r)) : Zf a b d f (r + 1) pl := by
  intro p hp
  rcases h p hp with q | q | ⟨r0, q1, q2, q3, q4⟩
  · exact Or.inl q
  · exact Or.inr (Or.inl q)
  · refine Or.inr (Or.inr ⟨r0, ?_, q2, q3, q4⟩)
    rcases Nat.lt_or_eq_of_le q1 with x | x
    · exact x
    · exfalso
      subst x
      rcases q4.1 with y | y
      · exact hn _ (Nat.le_refl _) (by omega) ⟨by rw [y]; exact (hT.tr p hp).1, by rw [y]; exact q3⟩
      · exact hn (a.S r + 1) (by omega) (by omega) ⟨by rw [y]; exact (hT.tr p hp).1, by rw [y]; exact q3⟩
theorem Zf.move {a b : Rx} {d : Tx} {f : Nat → Int32} {r pl : Nat} (h : Zf a b d f r pl) (hM : Mv a b r pl) : Zf a (Mvd a b r pl) d f r (pl + 1) := by
  intro p hp
  rcases h p hp with q | ⟨q, q1, q2, q3⟩ | q
  · exact Or.inl q
  · exact Or.inr (Or.inl ⟨q, by omega, q2, Mvd.old hM q1 q3⟩)
  · exact Or.inr (Or.inr q)
/-- the truth at j's code has row r as its reason: it gets pl -/
theorem Zf.one {a b : Rx} {d : Tx} {f : Nat → Int32} {r pl j : Nat} (h : Zf a b d f r pl) (hM : Mv a b r pl) (hT : Tok d) (hR : Rok a) (hr : r < a.n) (j1 : a.S r ≤ j) (j2 : j < a.S r + 2) (j3 : d.tv (a.C j) = 1) (j4 : f (a.C j / 2) = nI r) : Zf a (Mvd a b r pl) d (upd f (a.C j / 2) (nI pl)) (r + 1) (pl + 1) ∧ ∃ p, p < d.k ∧ d.O p = a.C j ∧ Rc a d r p := by
  obtain ⟨i1, i2, i3, i4, i5, i6⟩ := hR.inb hr
  have hc := (hR.cf j (by omega)).2
  obtain ⟨p0, p1, p2⟩ := hT.yes hc.1 hc.2 j3
  have hM2 := hM.pr
  have hrc : Rc a d r p0 := by
    rcases h p0 p1 with ⟨q, _⟩ | ⟨q, q1, q2, _⟩ | ⟨r0, q1, q2, q3, q4⟩
    · rw [p2, j4] at q; exact absurd q (nI_m1 (by omega))
    · rw [p2, j4] at q2; have := (nI_eq (by omega) (by omega)).mp q2; omega
    · rw [p2, j4] at q3; have := (nI_eq (by omega) (by omega)).mp q3; subst this; exact q4
  refine ⟨fun p hp => ?_, p0, p1, p2, hrc⟩
  by_cases hq : p = p0
  · subst hq
    exact Or.inr (Or.inl ⟨pl, Nat.lt_succ_self _, by rw [p2, pk_us], Mvd.new hR hr hrc⟩)
  · have hv : d.O p / 2 ≠ a.C j / 2 := fun e => hq (hT.ds p p0 hp p1 (by rw [e, p2]))
    rw [pk_un hv]
    rcases h p hp with q | ⟨q, q1, q2, q3⟩ | ⟨r0, q1, q2, q3, q4⟩
    · exact Or.inl q
    · exact Or.inr (Or.inl ⟨q, by omega, q2, Mvd.old hM q1 q3⟩)
    · refine Or.inr (Or.inr ⟨r0, ?_, q2, q3, q4⟩)
      rcases Nat.lt_or_eq_of_le q1 with x | x
      · exact x
      · exfalso
        subst x
        have hne : a.C j ≠ d.O p := fun e => hv (by rw [e])
        obtain ⟨q, y1, y2⟩ := q4.2 j j1 (by omega) hne
        have e1 : d.O q / 2 = d.O p0 / 2 := by rw [y2, p2, fl_var]
        have e2 := hT.ds q p0 (by omega) p1 e1
        rw [e2, p2] at y2
        exact fl_ne _ y2.symm
theorem Zf.start {a : Rx} {d : Tx} (h : Sok a d) : Zf a a d d.rv 0 0 := by
  intro p hp
  rcases h p hp with q | ⟨r, r1, r2, r3, r4⟩
  · exact Or.inl q
  · exact Or.inr (Or.inr ⟨r, Nat.zero_le _, r1, r2, r3, r4⟩)
/-- the trail with other reasons -/
def Trv (d : Tx) (f : Nat → Int32) : Tx := Tx.of d.k d.fo d.lev d.low d.tv d.ov d.lv f d.sv d.O d.L d.V
/-- the rows when all have been looked at -/
def Rcut (b : Rx) (pl : Nat) : Rx := Rx.of b.la b.lc pl b.sf b.kf b.cf b.S b.C
theorem Mv.done {a b : Rx} {pl : Nat} (h : Mv a b a.n pl) (hR : Rok a) : Rok (Rcut b pl) := by
  have h1 := h.pr; have h2 := h.le; have h3 := hR.n1; have h4 := hR.top
  exact ⟨by show pl < b.la; rw [h.eq.1]; omega, by show b.la ≤ _; rw [h.eq.1]; exact hR.la, by show b.lc ≤ _; rw [h.eq.2.1]; exact hR.lc, h.s2, h.u2, by show b.S pl ≤ b.lc; rw [h.eq.2.1]; omega, h.c2⟩
theorem Zf.done {a b : Rx} {d : Tx} {f : Nat → Int32} {pl : Nat} (h : Zf a b d f a.n pl) : Sok (Rcut b pl) (Trv d f) := by
  intro p hp
  rcases h p hp with q | ⟨q, q1, q2, q3⟩ | ⟨r0, q1, q2, _⟩
  · exact Or.inl q
  · exact Or.inr ⟨q, q1, q2, q3.1, q3.2⟩
  · omega
theorem Mv.nok {a b : Rx} {pl g l c0 c1 : Nat} (h : Mv a b a.n pl) (hN : Nok a g l) (h0 : cn (isK b.kf 0) pl = c0) (h1 : cn (isK b.kf 1) pl = c1) : Nok (Rcut b pl) c0 c1 :=
  ⟨by show b.S 0 = 0; rw [h.eq.2.2.2]; exact hN.z0, h.kd, h.ln, h0, h1⟩
theorem Lok.rv {d : Tx} (h : Lok d) (f : Nat → Int32) : Lok (Trv d f) := h
theorem Tok.rv {d : Tx} (h : Tok d) (f : Nat → Int32) : Tok (Trv d f) := h
/-- how many rows of kind k are kept, one more -/
theorem cn_mvd {a b : Rx} {r pl : Nat} {k : Int32} : cn (isK (Mvd a b r pl).kf k) (pl + 1) = cn (isK b.kf k) pl + (if b.kf r = k then 1 else 0) := by
  show cn (isK (upd b.kf pl (b.kf r)) k) pl + (if isK (upd b.kf pl (b.kf r)) k pl = true then 1 else 0) = _
  rw [cn_congr (P' := isK b.kf k) (fun q hq => by unfold isK; rw [pk_un (by omega)])]
  have e : isK (upd b.kf pl (b.kf r)) k pl = decide (b.kf r = k) := by unfold isK; rw [pk_us]
  rw [e]
  by_cases hq : b.kf r = k
  · rw [if_pos hq, if_pos (decide_eq_true hq)]
  · rw [if_neg hq, if_neg (fun x => hq (of_decide_eq_true x))]
theorem cn_s {f : Nat → Int32} {k : Int32} {r : Nat} : cn (isK f k) (r + 1) = cn (isK f k) r + (if f r = k then 1 else 0) := by
  show cn (isK f k) r + (if isK f k r = true then 1 else 0) = _
  have e : isK f k r = decide (f r = k) := rfl
  rw [e]
  by_cases hq : f r = k
  · rw [if_pos hq, if_pos (decide_eq_true hq)]
  · rw [if_neg hq, if_neg (fun x => hq (of_decide_eq_true x))]
/-- how many of each kind are kept and dropped (dd), and why: as long as none is dropped every lesson is a reason -/
def Cnt (a b : Rx) (d : Tx) (f : Nat → Int32) (r pl dd : Nat) : Prop := (cn (isK b.kf 0) pl = cn (isK a.kf 0) r) ∧ (cn (isK b.kf 1) pl + dd = cn (isK a.kf 1) r) ∧ (dd = 0 → pl = r ∧ (∀ v, f v = d.rv v) ∧ ∀ q, q < r → a.kf q = 1 → ∃ p, p < d.k ∧ d.rv (d.O p / 2) = nI q)
theorem Cnt.c0 {a b : Rx} {d : Tx} {f : Nat → Int32} {r pl dd : Nat} (h : Cnt a b d f r pl dd) : cn (isK b.kf 0) pl = cn (isK a.kf 0) r := h.1
theorem Cnt.c1 {a b : Rx} {d : Tx} {f : Nat → Int32} {r pl dd : Nat} (h : Cnt a b d f r pl dd) : cn (isK b.kf 1) pl + dd = cn (isK a.kf 1) r := h.2.1
theorem Cnt.nd {a b : Rx} {d : Tx} {f : Nat → Int32} {r pl dd : Nat} (h : Cnt a b d f r pl dd) : dd = 0 → pl = r ∧ (∀ v, f v = d.rv v) ∧ ∀ q, q < r → a.kf q = 1 → ∃ p, p < d.k ∧ d.rv (d.O p / 2) = nI q := h.2.2
theorem Cnt.keep {a b : Rx} {d : Tx} {f f' : Nat → Int32} {r pl dd : Nat} (h : Cnt a b d f r pl dd) (hk : b.kf r = a.kf r) (hf : dd = 0 → ∀ v, f' v = f v) (hn : dd = 0 → a.kf r = 1 → ∃ p, p < d.k ∧ d.rv (d.O p / 2) = nI r) : Cnt a (Mvd a b r pl) d f' (r + 1) (pl + 1) dd := by
  refine ⟨?_, ?_, fun h0 => ?_⟩
  · rw [cn_mvd, cn_s, h.c0, hk]
  · rw [cn_mvd, cn_s, hk]; have := h.c1; omega
  · obtain ⟨n1, n2, n3⟩ := h.nd h0
    refine ⟨by omega, fun v => (hf h0 v).trans (n2 v), fun q hq h1 => ?_⟩
    rcases Nat.lt_or_eq_of_le (Nat.le_of_lt_succ hq) with x | x
    · exact n3 q x h1
    · subst x; exact hn h0 h1
theorem Cnt.drop {a b : Rx} {d : Tx} {f : Nat → Int32} {r pl dd : Nat} (h : Cnt a b d f r pl dd) (hk : a.kf r = 1) : Cnt a b d f (r + 1) pl (dd + 1) := by
  refine ⟨?_, ?_, fun h0 => absurd h0 (by omega)⟩
  · rw [cn_s, hk, if_neg (by decide)]; exact h.c0
  · rw [cn_s, hk, if_pos rfl]; have := h.c1; omega
theorem Cnt.some {a b : Rx} {d : Tx} {f : Nat → Int32} {pl dd : Nat} (h : Cnt a b d f a.n pl dd) (hT : Tok d) (hn : a.n < 2 ^ 31) (hl : 401 ≤ cn (isK a.kf 1) a.n) : 0 < dd := by
  rcases Nat.eq_zero_or_pos dd with h0 | h0
  · exfalso
    obtain ⟨_, _, n3⟩ := h.nd h0
    have hex : ∀ q, ∃ p, q < a.n → isK a.kf 1 q = true → p < d.k ∧ d.rv (d.O p / 2) = nI q := fun q => by
      by_cases hq : q < a.n ∧ isK a.kf 1 q = true
      · obtain ⟨p, p1, p2⟩ := n3 q hq.1 (of_decide_eq_true hq.2); exact ⟨p, fun _ _ => ⟨p1, p2⟩⟩
      · exact ⟨0, fun x1 x2 => absurd ⟨x1, x2⟩ hq⟩
    obtain ⟨F, hF⟩ := Classical.axiomOfChoice hex
    have h1 := cn_inj (P := isK a.kf 1) (n := a.n) (m := d.k) F (fun r hr hp => (hF r hr hp).1) (fun r q hr hq hp hp2 e => by
      have e1 := (hF r hr hp).2; have e2 := (hF q hq hp2).2
      rw [e] at e1
      exact (nI_eq (by omega) (by omega)).mp (e1.symm.trans e2))
    have := hT.k400
    omega
  · exact h0
/-- the concrete arrays of b with the rows of a -/
def Rmix (a b : Rx) : Rx := Rx.of b.la b.lc b.n b.sf b.kf b.cf a.S a.C
/-- a row more -/
def Radd (a : Rx) (len : Nat) (A9 : Nat → Nat) (l1 l2 : Nat) (s1 s2 s3 : Nat → Int32) : Rx := Rx.of l1 l2 (a.n + 1) s1 s2 s3 (upN a.S (a.n + 1) (a.S a.n + len)) (fun j => if j < a.S a.n then a.C j else A9 (j - a.S a.n))
def Rext (a b : Rx) (len : Nat) (A9 : Nat → Nat) (kd : Int32) : Prop := (b.n = a.n + 1) ∧ (∀ r, r ≤ a.n → b.S r = a.S r) ∧ (b.S (a.n + 1) = a.S a.n + len) ∧ (∀ j, j < a.S a.n → b.C j = a.C j) ∧ (∀ j, j < len → b.C (a.S a.n + j) = A9 j) ∧ (∀ r, r < a.n → b.kf r = a.kf r) ∧ (b.kf a.n = kd)
theorem Rext.n {a b : Rx} {len : Nat} {A9 : Nat → Nat} {kd : Int32} (h : Rext a b len A9 kd) : b.n = a.n + 1 := h.1
theorem Rext.S {a b : Rx} {len : Nat} {A9 : Nat → Nat} {kd : Int32} (h : Rext a b len A9 kd) : ∀ r, r ≤ a.n → b.S r = a.S r := h.2.1
theorem Rext.Sn {a b : Rx} {len : Nat} {A9 : Nat → Nat} {kd : Int32} (h : Rext a b len A9 kd) : b.S (a.n + 1) = a.S a.n + len := h.2.2.1
theorem Rext.C {a b : Rx} {len : Nat} {A9 : Nat → Nat} {kd : Int32} (h : Rext a b len A9 kd) : ∀ j, j < a.S a.n → b.C j = a.C j := h.2.2.2.1
theorem Rext.Cn {a b : Rx} {len : Nat} {A9 : Nat → Nat} {kd : Int32} (h : Rext a b len A9 kd) : ∀ j, j < len → b.C (a.S a.n + j) = A9 j := h.2.2.2.2.1
theorem Rext.kf {a b : Rx} {len : Nat} {A9 : Nat → Nat} {kd : Int32} (h : Rext a b len A9 kd) : ∀ r, r < a.n → b.kf r = a.kf r := h.2.2.2.2.2.1
theorem Rext.kn {a b : Rx} {len : Nat} {A9 : Nat → Nat} {kd : Int32} (h : Rext a b len A9 kd) : b.kf a.n = kd := h.2.2.2.2.2.2
theorem Radd.ext {a : Rx} {len l1 l2 : Nat} {A9 : Nat → Nat} {s1 s2 s3 : Nat → Int32} {kd : Int32} (h1 : ∀ j, j < a.n → s2 j = a.kf j) (h2 : s2 a.n = kd) : Rext a (Radd a len A9 l1 l2 s1 s2 s3) len A9 kd :=
  ⟨rfl, fun r hr => upN_n (by omega), upN_s, fun j hj => if_pos hj, fun j hj => by show (if a.S a.n + j < a.S a.n then _ else A9 (a.S a.n + j - a.S a.n)) = _; rw [if_neg (by omega), show a.S a.n + j - a.S a.n = j by omega], h1, h2⟩
theorem Radd.ok {a : Rx} {len l1 l2 : Nat} {A9 : Nat → Nat} {s1 s2 s3 ff : Nat → Int32} (hR : Rok a) (hlen : 2 ≤ len) (hA : ∀ j, j < len → ff j = nI (A9 j) ∧ 2 ≤ A9 j ∧ A9 j < 802) (f1 : a.n + 1 < l1) (f1b : l1 ≤ 1048576) (f3 : a.S a.n + len ≤ l2) (f3b : l2 ≤ 4194304) (f5 : ∀ j, j ≤ a.n → s1 j = a.sf j) (f6 : s1 (a.n + 1) = nI (a.S a.n + len)) (f9 : ∀ j, j < a.S a.n → s3 j = a.cf j) (f10 : ∀ j, j < len → s3 (a.S a.n + j) = ff j) : Rok (Radd a len A9 l1 l2 s1 s2 s3) := by
  have e := Radd.ext (a := a) (len := len) (l1 := l1) (l2 := l2) (A9 := A9) (s1 := s1) (s2 := fun j => if j < a.n then a.kf j else 0) (s3 := s3) (kd := 0) (fun j hj => if_pos hj) (if_neg (Nat.lt_irrefl _))
  have eS : ∀ r, r ≤ a.n → (Radd a len A9 l1 l2 s1 s2 s3).S r = a.S r := e.S
  have eSn : (Radd a len A9 l1 l2 s1 s2 s3).S (a.n + 1) = a.S a.n + len := e.Sn
  refine ⟨f1, f1b, f3b, fun r hr => ?_, fun r hr => ?_, ?_, fun j hj => ?_⟩
  · have hr : r ≤ a.n + 1 := hr
    show s1 r = _
    by_cases hq : r = a.n + 1
    · rw [hq, eSn]; exact f6
    · rw [eS r (by omega), f5 r (by omega)]; exact hR.sf r (by omega)
  · have hr : r < a.n + 1 := hr
    by_cases hq : r = a.n
    · rw [hq, eSn, eS a.n (Nat.le_refl _)]; omega
    · rw [eS r (by omega), eS (r + 1) (by omega)]; exact hR.up r (by omega)
  · show (Radd a len A9 l1 l2 s1 s2 s3).S (a.n + 1) ≤ l2; rw [eSn]; exact f3
  · have hj : j < (Radd a len A9 l1 l2 s1 s2 s3).S (a.n + 1) := hj
    rw [eSn] at hj
    show s3 j = nI ((Radd a len A9 l1 l2 s1 s2 s3).C j) ∧ _
    by_cases hq : j < a.S a.n
    · have : (Radd a len A9 l1 l2 s1 s2 s3).C j = a.C j := e.C j hq
      rw [this, f9 j hq]; exact hR.cf j hq
    · have : (Radd a len A9 l1 l2 s1 s2 s3).C (a.S a.n + (j - a.S a.n)) = A9 (j - a.S a.n) := e.Cn (j - a.S a.n) (by omega)
      have h7 := f10 (j - a.S a.n) (by omega)
      rw [show a.S a.n + (j - a.S a.n) = j by omega] at this h7
      rw [this, h7]; exact hA _ (by omega)
theorem Rext.wok {a b : Rx} {w : Wx} {len : Nat} {A9 : Nat → Nat} {kd : Int32} (e : Rext a b len A9 kd) (hR : Rok a) (h : Wok a w (2 * a.n)) : Wok b w (2 * a.n) := by
  have hn : ∀ m, m < 2 * a.n → nodeAt b m = nodeAt a m := fun m hm => by
    obtain ⟨i1, i2, i3, i4, i5, i6⟩ := hR.inb (r := m / 2) (by omega)
    show b.C (b.S (m / 2) + m % 2) = a.C (a.S (m / 2) + m % 2)
    rw [e.S _ (by omega), e.C _ (by omega)]
  refine ⟨fun c hc => ?_, fun m hm => ?_, h.ij, h.hn⟩
  · rcases h.hd c hc with q | ⟨q, q1, q2, q3⟩
    · exact Or.inl q
    · exact Or.inr ⟨q, q1, q2, by rw [hn q q1]; exact q3⟩
  · rcases h.nx m hm with q | ⟨q, q1, q2, q3⟩
    · exact Or.inl q
    · exact Or.inr ⟨q, q1, q2, by rw [hn q q1, hn m hm]; exact q3⟩
theorem Rext.sok {a b : Rx} {d : Tx} {len : Nat} {A9 : Nat → Nat} {kd : Int32} (e : Rext a b len A9 kd) (hR : Rok a) (h : Sok a d) : Sok b d := by
  intro p hp
  rcases h p hp with q | ⟨r, r1, r2, r3, r4⟩
  · exact Or.inl q
  · obtain ⟨i1, i2, i3, i4, i5, i6⟩ := hR.inb r1
    have e1 := e.S r (by omega); have e2 := e.S (r + 1) (by omega)
    refine Or.inr ⟨r, by rw [e.n]; omega, r2, ?_, fun j j1 j2 j3 => ?_⟩
    · rw [e1, e.C _ (by omega), e.C _ (by omega)]; exact r3
    · rw [e1] at j1; rw [e2] at j2; rw [e.C j (by omega)] at j3 ⊢; exact r4 j j1 j2 j3
theorem Rext.nok {a b : Rx} {g l len : Nat} {A9 : Nat → Nat} {kd : Int32} (e : Rext a b len A9 kd) (h : Nok a g l) (hk : kd = 0 ∨ kd = 1) (hl : len ≤ lenK kd) : Nok b (g + if kd = 0 then 1 else 0) (l + if kd = 1 then 1 else 0) := by
  have hc : ∀ k, cn (isK b.kf k) b.n = cn (isK a.kf k) a.n + if kd = k then 1 else 0 := fun k => by
    rw [e.n, cn_s, e.kn, cn_congr (P' := isK a.kf k) (fun q hq => by unfold isK; rw [e.kf q hq])]
  refine ⟨by rw [e.S 0 (Nat.zero_le _)]; exact h.z0, fun r hr => ?_, fun r hr => ?_, by rw [hc, h.c0], by rw [hc, h.c1]⟩
  · rw [e.n] at hr
    by_cases hq : r = a.n
    · rw [hq, e.kn]; exact hk
    · rw [e.kf r (by omega)]; exact h.kd r (by omega)
  · rw [e.n] at hr
    by_cases hq : r = a.n
    · rw [hq, e.Sn, e.S a.n (Nat.le_refl _), e.kn]; omega
    · rw [e.S r (by omega), e.S (r + 1) (by omega), e.kf r (by omega)]; exact h.ln r (by omega)
/-- a fact more -/
def Sad (x : Sx) (c : Nat) : Sx := Sx.of x.pv (upd x.fv x.fc (nI c)) (upd x.fi c 1) (x.fc + 1) x.lc x.bl x.hp (upN x.F x.fc c)
theorem Aok.add {x : Sx} {c : Nat} (h : Aok x) (h1 : 2 ≤ c) (h2 : c < 802) (h3 : x.fi c = 0) : Aok (Sad x c) := by
  have hF : ∀ j, j < x.fc → (Sad x c).F j = x.F j := fun j hj => upN_n (by omega)
  have hFn : (Sad x c).F x.fc = c := upN_s
  have hne : ∀ j, j < x.fc → x.F j ≠ c := fun j hj e => by have := (h.fv j hj).2.2.2; rw [e, h3] at this; exact this rfl
  refine ⟨fun j hj => ?_, fun i j hi hj e => ?_⟩
  · have hj : j < x.fc + 1 := hj
    show upd x.fv x.fc (nI c) j = _ ∧ _ ∧ _ ∧ upd x.fi c 1 _ ≠ 0
    by_cases hq : j = x.fc
    · rw [hq, hFn, pk_us, pk_us]; exact ⟨rfl, h1, h2, by decide⟩
    · rw [hF j (by omega), pk_un hq, pk_un (hne j (by omega))]; exact h.fv j (by omega)
  · have hi : i < x.fc + 1 := hi
    have hj : j < x.fc + 1 := hj
    by_cases a1 : i = x.fc <;> by_cases a2 : j = x.fc
    · omega
    · rw [a1, hFn, hF j (by omega)] at e; exact absurd e.symm (hne j (by omega))
    · rw [a2, hFn, hF i (by omega)] at e; exact absurd e (hne i (by omega))
    · rw [hF i (by omega), hF j (by omega)] at e; exact h.ij i j (by omega) (by omega) e
/-- all that the search holds -/
def Gx (a : Rx) (d e9 : Tx) (w : Wx) (z : Lx) (x : Sx) (gc : Nat) : Prop := (Gok a d w) ∧ (Aok x) ∧ (Cok e9) ∧ (∀ v, 1 ≤ v → v ≤ 400 → z.sn v = 0) ∧ (Nok a gc x.lc) ∧ (x.lc ≤ 1000 ∧ gc ≤ 512) ∧ (64 ≤ a.la ∧ a.la ≤ 4096) ∧ (256 ≤ a.lc ∧ a.lc ≤ 1048576) ∧ (128 ≤ w.nn ∧ w.nn ≤ 8192)
theorem Gx.G {a : Rx} {d e9 : Tx} {w : Wx} {z : Lx} {x : Sx} {gc : Nat} (h : Gx a d e9 w z x gc) : Gok a d w := h.1
theorem Gx.A {a : Rx} {d e9 : Tx} {w : Wx} {z : Lx} {x : Sx} {gc : Nat} (h : Gx a d e9 w z x gc) : Aok x := h.2.1
theorem Gx.C {a : Rx} {d e9 : Tx} {w : Wx} {z : Lx} {x : Sx} {gc : Nat} (h : Gx a d e9 w z x gc) : Cok e9 := h.2.2.1
theorem Gx.s {a : Rx} {d e9 : Tx} {w : Wx} {z : Lx} {x : Sx} {gc : Nat} (h : Gx a d e9 w z x gc) : ∀ v, 1 ≤ v → v ≤ 400 → z.sn v = 0 := h.2.2.2.1
theorem Gx.N {a : Rx} {d e9 : Tx} {w : Wx} {z : Lx} {x : Sx} {gc : Nat} (h : Gx a d e9 w z x gc) : Nok a gc x.lc := h.2.2.2.2.1
theorem Gx.l {a : Rx} {d e9 : Tx} {w : Wx} {z : Lx} {x : Sx} {gc : Nat} (h : Gx a d e9 w z x gc) : x.lc ≤ 1000 ∧ gc ≤ 512 := h.2.2.2.2.2.1
theorem Gx.la {a : Rx} {d e9 : Tx} {w : Wx} {z : Lx} {x : Sx} {gc : Nat} (h : Gx a d e9 w z x gc) : 64 ≤ a.la ∧ a.la ≤ 4096 := h.2.2.2.2.2.2.1
theorem Gx.lc {a : Rx} {d e9 : Tx} {w : Wx} {z : Lx} {x : Sx} {gc : Nat} (h : Gx a d e9 w z x gc) : 256 ≤ a.lc ∧ a.lc ≤ 1048576 := h.2.2.2.2.2.2.2.1
theorem Gx.nn {a : Rx} {d e9 : Tx} {w : Wx} {z : Lx} {x : Sx} {gc : Nat} (h : Gx a d e9 w z x gc) : 128 ≤ w.nn ∧ w.nn ≤ 8192 := h.2.2.2.2.2.2.2.2
theorem Eok.zero {a : Rx} {d : Tx} {z : Lx} (h : Eok a d z z.sz) : ∀ v, 1 ≤ v → v ≤ 400 → z.sn v = 0 := fun v v1 v2 => by
  by_cases hz : z.sn v = 0
  · exact hz
  · obtain ⟨j, j1, j2, _⟩ := h.sn v v1 v2 hz; omega
/-- cells and slots, by the lengths -/
def FC (a : Rx) (w : Wx) : Nat := a.la / 16 + a.lc / 128 + w.nn / 64
def FS (a : Rx) (w : Wx) : Nat := 4 * a.la + 2 * a.lc + 2 * w.nn
theorem Gx.fc {a : Rx} {d e9 : Tx} {w : Wx} {z : Lx} {x : Sx} {gc : Nat} (h : Gx a d e9 w z x gc) : FC a w ≤ 8576 ∧ FS a w ≤ 2129920 := by
  have := h.la; have := h.lc; have := h.nn; unfold FC FS; omega
/-- the lesson's row on the trail that went back -/
theorem lsn_code {a : Rx} {d : Tx} {z : Lx} {lw lo : Nat} {g : Nat → Int32} (hE : Eok a d z z.sz) (hL : Lok d) (hl : lw < d.lev) (h1 : (1 < z.sz ∧ lw = d.V (z.Q 1)) ∨ (z.sz ≤ 1 ∧ lw = 0)) {j : Nat} (j1 : 1 ≤ j) (j2 : j < z.sz) : z.Q j < (Tbk d lw lo g).k ∧ (Tbk d lw lo g).O (z.Q j) = d.O (z.Q j) := by
  refine ⟨?_, rfl⟩
  show z.Q j < d.L (lw + 1)
  obtain ⟨c1, c2, c3⟩ := hE.cd j j1 j2
  have h2 := hE.mx j j1 j2
  rcases h1 with ⟨_, e⟩ | ⟨q, _⟩
  · rcases Nat.lt_or_ge (z.Q j) (d.L (lw + 1)) with x | x
    · exact x
    · have := (hL.vs _ (lw + 1) c2 (by omega) (by omega)).mp x; omega
  · omega
/-- the lesson's codes -/
def Lcd (d : Tx) (z : Lx) (p0 : Nat) : Nat → Nat := fun j => if j = 0 then fl (d.O p0) else fl (d.O (z.Q j))
theorem Lcd.ok {a : Rx} {d : Tx} {z : Lx} {p0 : Nat} (hE : Eok a d z z.sz) (hT : Tok d) (h1 : p0 < d.k) (h2 : z.cd 0 = nI (fl (d.O p0))) : ∀ j, j < z.sz → z.cd j = nI (Lcd d z p0 j) ∧ 2 ≤ Lcd d z p0 j ∧ Lcd d z p0 j < 802 := by
  intro j hj
  by_cases hq : j = 0
  · have e : Lcd d z p0 j = fl (d.O p0) := if_pos hq
    rw [e, hq]; have := (hT.ov p0 h1).2; exact ⟨h2, fl_lt this.1 this.2⟩
  · have e : Lcd d z p0 j = fl (d.O (z.Q j)) := if_neg hq
    obtain ⟨c1, c2, c3⟩ := hE.cd j (by omega) hj
    rw [e]; have := (hT.ov _ c2).2; exact ⟨c1, fl_lt this.1 this.2⟩
theorem Gok.learn2 {a b : Rx} {d t : Tx} {w v : Wx} {z : Lx} {p0 : Nat} {kd : Int32} (hG : Gok a t w) (e : Rext a b z.sz (Lcd d z p0) kd) (hz : 2 ≤ z.sz) (hR : Rok b) (hW : Wok b v (2 * b.n)) (hnn : 2 * b.n ≤ v.nn ∧ v.nn ≤ 1048576) (h1 : 2 ≤ fl (d.O p0)) (h2 : fl (d.O p0) < 802) (hc : t.tv (fl (d.O p0)) = 0) (hq : ∀ j, 1 ≤ j → j < z.sz → ∃ q, q < t.k ∧ t.O q = d.O (z.Q j)) : Gok b (Tput t (fl (d.O p0)) (nI a.n)) v := by
  have e1 := e.S a.n (Nat.le_refl _)
  have e2 : b.C (a.S a.n + 0) = fl (d.O p0) := (e.Cn 0 (by omega)).trans (if_pos rfl)
  refine ⟨hR, hG.T.put _ h1 h2 hc, hG.L.put hG.T _ hc, (e.sok hG.R hG.Z).put hG.T hc (Or.inr ⟨a.n, by rw [e.n]; omega, rfl, Or.inl (by rw [e1]; exact e2), fun j j1 j2 j3 => ?_⟩), hW, hnn⟩
  rw [e1] at j1; rw [e.Sn] at j2
  obtain ⟨i, rfl⟩ : ∃ i, j = a.S a.n + i := ⟨j - a.S a.n, by omega⟩
  have h0 : i ≠ 0 := fun h => by subst h; exact j3 e2
  have e3 : b.C (a.S a.n + i) = fl (d.O (z.Q i)) := (e.Cn i (by omega)).trans (if_neg h0)
  obtain ⟨q, q1, q2⟩ := hq i (by omega) (by omega)
  exact ⟨q, q1, by rw [e3, fl_fl]; exact q2⟩
theorem Gok.learn1 {a : Rx} {t : Tx} {w : Wx} {c : Nat} (hG : Gok a t w) (h1 : 2 ≤ c) (h2 : c < 802) (hc : t.tv c = 0) (h0 : t.lev = 0) : Gok a (Tput t c (-1)) w := hG.fact h1 h2 hc h0
/-- the trail emptied -/
theorem Gok.clr {a : Rx} {d : Tx} {w : Wx} (h : Gok a d w) {g : Nat → Int32} {lo : Nat} (hh : (∀ c, (∀ p, 0 ≤ p → p < d.k → d.O p ≠ c ∧ fl (d.O p) ≠ c) → g c = d.tv c) ∧ (∀ p, 0 ≤ p → p < d.k → g (d.O p) = 0 ∧ g (fl (d.O p)) = 0) ∧ 1 ≤ lo ∧ lo ≤ d.low) : Gok a (Tsh d 0 (min d.fo 0) 0 lo g) w := by
  have hw := h.L.lw
  refine ⟨h.R, h.T.shr (Nat.zero_le _) hh.1 hh.2.1, ⟨⟨hh.2.2.1, by show lo ≤ 401; omega⟩, fun j j1 j2 => ?_, fun j j1 j2 => ?_, fun q => ?_, fun p hp => absurd hp (Nat.not_lt_zero _), fun p j hp => absurd hp (Nat.not_lt_zero _), ⟨by show min d.fo 0 ≤ 0; omega, fun q => ?_⟩⟩, fun p hp => absurd hp (Nat.not_lt_zero _), h.W, h.nn⟩
  · have j2 : j ≤ 0 := j2; omega
  · have j2 : j < 0 := j2; omega
  · have q : 1 ≤ 0 := q; omega
  · have q : 1 ≤ 0 := q; omega
theorem st_next {k : Int64} (h0 : 0 ≤ k.toInt) (h : k.toInt < 1099511627776) : (k + 1).toInt = k.toInt + 1 := by
  rw [Int64.toInt_add]
  have : (1 : Int64).toInt = 1 := rfl
  rw [this]
  exact Int.bmod_eq_of_le (by omega) (by omega)
theorem Rsm.nok {a b : Rx} {g l : Nat} (h : Rsm a b) (hN : Nok a g l) : Nok b g l := by
  refine ⟨by rw [h.S]; exact hN.z0, ?_, ?_, by rw [h.n, h.kf]; exact hN.c0, by rw [h.n, h.kf]; exact hN.c1⟩
  · rw [h.n, h.kf]; exact hN.kd
  · rw [h.n, h.kf, h.S]; exact hN.ln
theorem Gx.fol {a b : Rx} {d e e9 : Tx} {w v : Wx} {z : Lx} {x : Sx} {gc : Nat} (h : Gx a d e9 w z x gc) (hG : Gok b e v) (hR : Rsm a b) (hn : v.nn = w.nn) : Gx b e e9 v z x gc :=
  ⟨hG, h.A, h.C, h.s, hR.nok h.N, h.l, by rw [hR.la]; exact h.la, by rw [hR.lc]; exact h.lc, by rw [hn]; exact h.nn⟩
theorem Gx.tr {a : Rx} {d e e9 : Tx} {w : Wx} {z : Lx} {x : Sx} {gc : Nat} (h : Gx a d e9 w z x gc) (hG : Gok a e w) : Gx a e e9 w z x gc :=
  ⟨hG, h.A, h.C, h.s, h.N, h.l, h.la, h.lc, h.nn⟩
theorem fc_rsm {a b : Rx} {w v : Wx} (hR : Rsm a b) (hn : v.nn = w.nn) : FC b v = FC a w ∧ FS b v = FS a w := by
  unfold FC FS; rw [hR.la, hR.lc, hn]; exact ⟨rfl, rfl⟩
theorem st_lt {k : Int64} (h : ¬ 0 ≤ lg_cmp k 1099511627776) : k.toInt < 1099511627776 := by
  have q : ¬ (1099511627776 : Int64) ≤ k := fun x => h ((lg_cmp_ge _ _).mpr x)
  rw [Int64.le_iff_toInt_le] at q
  have e : (1099511627776 : Int64).toInt = 1099511627776 := rfl
  omega
theorem nn_le {a b c : Nat} (h : b = a ∨ (b = 2 * a ∧ a ≤ c)) : a ≤ b := by omega
theorem lc_le {x y e : Nat} (h : y = x ∨ (x < e ∧ y = 2 * e)) : x ≤ y := by omega
theorem gw {H S Fa Fb k : Nat} (h : H ≤ S + k) (hk : k ≤ Fb - Fa) (hm : Fa ≤ Fb) : H + Fa ≤ S + Fb := by omega
theorem nw {H H0 S Fa Fb : Nat} (h1 : H + Fa ≤ H0 + Fb) (h0 : H0 ≤ S + 0) : H ≤ S + (Fb - Fa) := by omega
theorem nw2 {H H0 S Fa Fb F0 k : Nat} (h1 : H + Fa ≤ H0 + Fb) (h0 : H0 ≤ S + k) (hk : k ≤ Fa - F0) (hm : F0 ≤ Fa) : H ≤ S + (Fb - F0) := by omega
theorem FC_mono {a b : Rx} {w v : Wx} (h1 : a.la ≤ b.la) (h2 : a.lc ≤ b.lc) (h3 : w.nn ≤ v.nn) : FC a w ≤ FC b v ∧ FS a w ≤ FS b v := by unfold FC FS; omega
theorem kp_c {k1 k2 : Nat} (h2 : k2 ≤ k1 + 1) (h1 : k1 ≤ 0 + 3) : k2 ≤ 4 := by omega
theorem kp_s {k1 k2 a b : Nat} (h2 : k2 ≤ k1 + b) (h1 : k1 ≤ 0 + a) : k2 ≤ a + b := by omega
theorem s9 {k la e nn : Nat} (h : k ≤ 0 + (4 * la + 2 * e + 2 * nn)) (h1 : la ≤ 4096) (h2 : e ≤ 411900) (h3 : nn ≤ 8192) : k ≤ 900000 := by omega
theorem bl_la {x y n : Nat} (h : y = x ∨ (y = 2 * x ∧ x ≤ n + 1)) (h1 : 64 ≤ x ∧ x ≤ 4096) (hn : n ≤ 1600) : 64 ≤ y ∧ y ≤ 4096 := by omega
theorem bl_lc {x y e : Nat} (h : y = x ∨ (x < e ∧ y = 2 * e)) (h1 : 256 ≤ x ∧ x ≤ 1048576) (he : e ≤ 411900) : 256 ≤ y ∧ y ≤ 1048576 := by omega
theorem bl_nn {x y n : Nat} (h : y = x ∨ (y = 2 * x ∧ x ≤ 2 * n + 1)) (h1 : 128 ≤ x ∧ x ≤ 8192) (hn : n ≤ 1600) : 128 ≤ y ∧ y ≤ 8192 := by omega
theorem nz {H S F F0 : Nat} (h : H + F0 ≤ S + F) : H ≤ S + (F - F0) := by omega
