/-- two nodes more: row r's -/
def Wad (a : Rx) (w : Wx) (r : Nat) : Wx := Hang (Hang w (2 * r) (a.C (a.S r))) (2 * r + 1) (a.C (a.S r + 1))
theorem Wok.one {a : Rx} {w : Wx} {m c : Nat} (h : Wok a w m) (hM : m + 1 < 2 ^ 31) (hc : c < 802) (hn : nodeAt a m = c) : Wok a (Hang w m c) (m + 1) := by
  have en : ∀ x y : Nat, x < m + 1 → y < m + 1 → nI x = nI y → x = y := fun x y hx hy e => (nI_eq (by omega) (by omega)).mp e
  have e1 : ∀ x, x ≠ c → (Hang w m c).hd x = w.hd x := fun x hx => pk_un hx
  have e2 : (Hang w m c).hd c = nI m := pk_us
  have e3 : ∀ y, y ≠ m → (Hang w m c).nx y = w.nx y := fun y hy => pk_un hy
  have e4 : (Hang w m c).nx m = w.hd c := pk_us
  have f1 : ∀ x, x < 802 → w.hd x ≠ nI m := fun x hx e => by
    rcases h.hd x hx with q | ⟨q, q1, q2, _⟩
    · rw [q] at e; exact nI_m1 (by omega) e.symm
    · have := en q m (by omega) (by omega) (q2.symm.trans e); omega
  have f2 : ∀ y, y < m → w.nx y ≠ nI m := fun y hy e => by
    rcases h.nx y hy with q | ⟨q, q1, q2, _⟩
    · rw [q] at e; exact nI_m1 (by omega) e.symm
    · have := en q m (by omega) (by omega) (q2.symm.trans e); omega
  refine ⟨fun x hx => ?_, fun y hy => ?_, fun y z hy hz e => ?_, fun x y hx hy e => ?_⟩
  · by_cases hxc : x = c
    · subst hxc; exact Or.inr ⟨m, by omega, e2, hn⟩
    · rw [e1 x hxc]
      rcases h.hd x hx with q | ⟨q, q1, q2, q3⟩
      · exact Or.inl q
      · exact Or.inr ⟨q, by omega, q2, q3⟩
  · by_cases hym : y = m
    · subst hym; rw [e4]
      rcases h.hd c hc with q | ⟨q, q1, q2, q3⟩
      · exact Or.inl q
      · exact Or.inr ⟨q, by omega, q2, by rw [q3, hn]⟩
    · rw [e3 y hym]
      rcases h.nx y (by omega) with q | ⟨q, q1, q2, q3⟩
      · exact Or.inl q
      · exact Or.inr ⟨q, by omega, q2, q3⟩
  · by_cases hym : y = m
    · by_cases hzm : z = m
      · exact Or.inr (by omega)
      · subst hym; rw [e4, e3 z hzm] at e; rw [e4]; exact Or.inl (h.hn c z hc (by omega) e)
    · by_cases hzm : z = m
      · subst hzm; rw [e4, e3 y hym] at e; rw [e3 y hym, e]; exact Or.inl (h.hn c y hc (by omega) e.symm)
      · rw [e3 y hym, e3 z hzm] at e; rw [e3 y hym]; exact h.ij y z (by omega) (by omega) e
  · by_cases hxc : x = c
    · subst hxc
      rw [e2] at e
      by_cases hym : y = m
      · subst hym; rw [e4] at e; exact absurd e.symm (f1 x hx)
      · rw [e3 y hym] at e; exact absurd e.symm (f2 y (by omega))
    · rw [e1 x hxc] at e ⊢
      by_cases hym : y = m
      · subst hym; rw [e4] at e
        rcases h.hd x hx with q | ⟨q, q1, q2, q3⟩
        · exact q
        · rcases h.hd c hc with r | ⟨r, r1, r2, r3⟩
          · rw [e]; exact r
          · have := en q r (by omega) (by omega) (by rw [← q2, ← r2]; exact e)
            subst this; exact absurd (q3.symm.trans r3) hxc
      · rw [e3 y hym] at e; exact h.hn x y hx (by omega) e
theorem Wok.two {a : Rx} {w : Wx} {r : Nat} (h : Wok a w (2 * r)) (hR : Rok a) (hr : r < a.n) : Wok a (Wad a w r) (2 * (r + 1)) := by
  obtain ⟨i1, i2, i3, i4, i5, i6⟩ := hR.inb hr
  have h1 : nodeAt a (2 * r) = a.C (a.S r) := by show a.C (a.S (2 * r / 2) + 2 * r % 2) = _; rw [show 2 * r / 2 = r by omega, show 2 * r % 2 = 0 by omega]; rfl
  have h2 : nodeAt a (2 * r + 1) = a.C (a.S r + 1) := by show a.C (a.S ((2 * r + 1) / 2) + (2 * r + 1) % 2) = _; rw [show (2 * r + 1) / 2 = r by omega, show (2 * r + 1) % 2 = 1 by omega]
  have g1 := h.one (by omega) (hR.cf (a.S r) (by omega)).2.2 h1
  have g2 := g1.one (by omega) (hR.cf (a.S r + 1) (by omega)).2.2 h2
  exact g2
/-- the chains stand also where next has become longer -/
theorem Wok.ext {a : Rx} {w v : Wx} {M : Nat} (h : Wok a w M) (h1 : v.hd = w.hd) (h2 : ∀ m, m < M → v.nx m = w.nx m) : Wok a v M := by
  refine ⟨fun c hc => by rw [h1]; exact h.hd c hc, fun m hm => by rw [h2 m hm]; exact h.nx m hm, fun m q hm hq => by rw [h2 m hm, h2 q hq]; exact h.ij m q hm hq, fun c m hc hm => by rw [h1, h2 m hm]; exact h.hn c m hc hm⟩
