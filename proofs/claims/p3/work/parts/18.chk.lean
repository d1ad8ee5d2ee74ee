theorem jm_sub1 (k : Nat) : nI k - nI 1 = jm k := by
  unfold jm
  by_cases h : k = 0
  · rw [if_pos h, h]; decide
  · rw [if_neg h]; exact pk_sub (by omega)
/-- the check's trail -/
def Cok (e : Tx) : Prop := (Tok e) ∧ (1 ≤ e.low ∧ e.low ≤ 401) ∧ (e.fo ≤ 401)
theorem Cok.T {e : Tx} (h : Cok e) : Tok e := h.1
theorem Cok.lw {e : Tx} (h : Cok e) : 1 ≤ e.low ∧ e.low ≤ 401 := h.2.1
theorem Cok.fo {e : Tx} (h : Cok e) : e.fo ≤ 401 := h.2.2
/-- the trail cut at j -/
def Tsh (d : Tx) (j fo lev lo : Nat) (g : Nat → Int32) : Tx := Tx.of j fo lev lo g d.ov d.lv d.rv d.sv d.O d.L d.V
theorem Tok.shr {d : Tx} (h : Tok d) {j fo lev lo : Nat} {g : Nat → Int32} (hj : j ≤ d.k) (h1 : ∀ c, (∀ p, j ≤ p → p < d.k → d.O p ≠ c ∧ fl (d.O p) ≠ c) → g c = d.tv c) (h2 : ∀ p, j ≤ p → p < d.k → g (d.O p) = 0 ∧ g (fl (d.O p)) = 0) : Tok (Tsh d j fo lev lo g) := by
  have hk : ∀ p, p < j → g (d.O p) = d.tv (d.O p) ∧ g (fl (d.O p)) = d.tv (fl (d.O p)) := fun p hp => by
    have ne : ∀ q, j ≤ q → q < d.k → d.O q / 2 ≠ d.O p / 2 := fun q q1 q2 e => by have := h.ds q p q2 (by omega) e; omega
    refine ⟨h1 _ (fun q q1 q2 => ⟨fun e => ne q q1 q2 (by rw [e]), fun e => ne q q1 q2 (by rw [← e, fl_var])⟩), h1 _ (fun q q1 q2 => ⟨fun e => ne q q1 q2 (by rw [e, fl_var]), fun e => ne q q1 q2 (by have := congrArg (· / 2) e; simp only [fl_var] at this; exact this)⟩)⟩
  refine ⟨fun p hp => h.ov p (Nat.lt_of_lt_of_le hp hj), fun p hp => ?_, fun p q hp hq e => h.ds p q (Nat.lt_of_lt_of_le hp hj) (Nat.lt_of_lt_of_le hq hj) e, fun c c1 c2 c3 => ?_⟩
  · show g (d.O p) = 1 ∧ g (fl (d.O p)) = 2
    rw [(hk p hp).1, (hk p hp).2]; exact h.tr p (Nat.lt_of_lt_of_le hp hj)
  · have c3 : g c ≠ 0 := c3
    by_cases hc : ∃ p, j ≤ p ∧ p < d.k ∧ d.O p / 2 = c / 2
    · obtain ⟨p, p1, p2, p3⟩ := hc
      rcases fl_of p3 with e | e
      · rw [e] at c3; exact absurd (h2 p p1 p2).1 c3
      · rw [e] at c3; exact absurd (h2 p p1 p2).2 c3
    · rw [h1 c (fun p p1 p2 => ⟨fun e => hc ⟨p, p1, p2, by rw [e]⟩, fun e => hc ⟨p, p1, p2, by rw [← e, fl_var]⟩⟩)] at c3
      obtain ⟨p, p1, p2⟩ := h.kn c c1 c2 c3
      refine ⟨p, ?_, p2⟩
      show p < j
      rcases Nat.lt_or_ge p j with q | q
      · exact q
      · exact absurd ⟨p, q, p1, p2⟩ hc
theorem Cok.put {e : Tx} (h : Cok e) {c : Nat} (be : Int32) (h1 : 2 ≤ c) (h2 : c < 802) (h3 : e.tv c = 0) : Cok (Tput e c be) := ⟨h.T.put be h1 h2 h3, h.lw, h.fo⟩
theorem Tok.O4 {d : Tx} (h : Tok d) : ∀ p, p < d.k → d.ov p = nI (d.O p) ∧ 2 ≤ d.O p ∧ d.O p < 802 ∧ fl (d.O p) < 802 := fun p hp => by
  have h1 := h.ov p hp; exact ⟨h1.1, h1.2.1, h1.2.2, (fl_lt h1.2.1 h1.2.2).2⟩
theorem Cok.clr {e : Tx} (h : Cok e) {g : Nat → Int32} {lo : Nat} (hh : (∀ c, (∀ p, 0 ≤ p → p < e.k → e.O p ≠ c ∧ fl (e.O p) ≠ c) → g c = e.tv c) ∧ (∀ p, 0 ≤ p → p < e.k → g (e.O p) = 0 ∧ g (fl (e.O p)) = 0) ∧ 1 ≤ lo ∧ lo ≤ e.low) : Cok (Tsh e 0 (min e.fo 0) 0 lo g) :=
  ⟨h.T.shr (Nat.zero_le _) hh.1 hh.2.1, ⟨hh.2.2.1, Nat.le_trans hh.2.2.2 h.lw.2⟩, by show min e.fo 0 ≤ 401; omega⟩
/-- the truths of the check's trail are the lesson's denials -/
def Cor (d : Tx) (z : Lx) (e : Tx) (x : Nat) : Prop := e.k = x ∧ ∀ p, p < x → ∃ y, y < d.k ∧ e.O p = d.O y ∧ (p = 0 → d.L d.lev ≤ y) ∧ (1 ≤ p → y = z.Q p)
theorem Eok.at {a : Rx} {d : Tx} {z : Lx} {x j : Nat} (h : Eok a d z x) (hj : j < z.sz) : ∃ y, y < d.k ∧ z.cd j = nI (fl (d.O y)) ∧ (j = 0 → d.L d.lev ≤ y) ∧ (1 ≤ j → y = z.Q j) := by
  rcases Nat.eq_zero_or_pos j with q | q
  · subst q; obtain ⟨p, p1, p2, p3⟩ := h.c0; exact ⟨p, p1, p3, fun _ => p2, fun x => absurd x (by omega)⟩
  · obtain ⟨c1, c2, _⟩ := h.cd j q hj; exact ⟨z.Q j, c2, c1, fun x => absurd x (by omega), fun _ => rfl⟩
theorem Cor.new {a : Rx} {d : Tx} {z : Lx} {e : Tx} {x y : Nat} (h : Cor d z e x) (hC : Cok e) (hE : Eok a d z z.sz) (hT : Tok d) (hL : Lok d) (hlev : 1 ≤ d.lev) (hx : x < z.sz) (hy : y < d.k) (y1 : x = 0 → d.L d.lev ≤ y) (y2 : 1 ≤ x → y = z.Q x) : e.tv (d.O y) = 0 := by
  by_cases h0 : e.tv (d.O y) = 0
  · exact h0
  · exfalso
    have hb := (hT.ov y hy).2
    obtain ⟨p, p1, p2⟩ := hC.T.kn (d.O y) hb.1 hb.2 h0
    rw [h.1] at p1
    obtain ⟨w, w1, w2, w3, w4⟩ := h.2 p p1
    rw [w2] at p2
    have e1 := hT.ds w y w1 hy p2
    subst e1
    have e2 := y2 (by omega)
    rcases Nat.eq_zero_or_pos p with q | q
    · have l1 := w3 q
      have l2 := (hL.vs w d.lev w1 hlev (Nat.le_refl _)).mp l1
      have l3 := (hE.cd x (by omega) hx).2.2
      rw [← e2] at l3; omega
    · have e3 := w4 q
      have := hE.ij p x q (by omega) (by omega) hx (e3.symm.trans e2)
      omega
theorem Cor.put {d : Tx} {z : Lx} {e : Tx} {x y c : Nat} (h : Cor d z e x) (hy : y < d.k) (hc : c = d.O y) (y1 : x = 0 → d.L d.lev ≤ y) (y2 : 1 ≤ x → y = z.Q x) (be : Int32) : Cor d z (Tput e c be) (x + 1) := by
  refine ⟨by show e.k + 1 = x + 1; rw [h.1], fun p hp => ?_⟩
  by_cases hq : p = x
  · subst hq; refine ⟨y, hy, ?_, y1, y2⟩
    show upN e.O e.k c p = _; rw [h.1, upN_s]; exact hc
  · obtain ⟨w, w1, w2, w3⟩ := h.2 p (by omega)
    refine ⟨w, w1, ?_, w3⟩
    show upN e.O e.k c p = _; rw [upN_n (by rw [h.1]; exact hq)]; exact w2
