def Sx : Type := (Nat → Int32) × (Nat → Int32) × (Nat → Int32) × (Nat) × (Nat) × (Int32) × (Int32) × (Nat → Nat)
def Sx.pv (a : Sx) : Nat → Int32 := a.1
def Sx.fv (a : Sx) : Nat → Int32 := a.2.1
def Sx.fi (a : Sx) : Nat → Int32 := a.2.2.1
def Sx.fc (a : Sx) : Nat := a.2.2.2.1
def Sx.lc (a : Sx) : Nat := a.2.2.2.2.1
def Sx.bl (a : Sx) : Int32 := a.2.2.2.2.2.1
def Sx.hp (a : Sx) : Int32 := a.2.2.2.2.2.2.1
def Sx.F (a : Sx) : Nat → Nat := a.2.2.2.2.2.2.2
def Sx.of (pv : Nat → Int32) (fv : Nat → Int32) (fi : Nat → Int32) (fc : Nat) (lc : Nat) (bl : Int32) (hp : Int32) (F : Nat → Nat) : Sx := (pv, fv, fi, fc, lc, bl, hp, F)
/-- back to level lw -/
def Tbk (d : Tx) (lw lo : Nat) (g : Nat → Int32) : Tx := Tsh d (d.L (lw + 1)) (min d.fo (d.L (lw + 1))) lw lo g
theorem bk_le {d : Tx} (h : Lok d) {lw : Nat} (hl : lw < d.lev) : d.L (lw + 1) < d.k ∧ d.L (lw + 1) ≤ d.L d.lev ∧ d.L (lw + 1) ≤ d.fo := by
  have h1 := h.le (i := lw + 1) (j := d.lev) (by omega) (by omega) (Nat.le_refl _)
  have h2 := h.tp (by omega); have h3 := h.fo.2 (by omega)
  omega
theorem Lok.bk {d : Tx} (h : Lok d) {lw lo : Nat} {g : Nat → Int32} (hl : lw < d.lev) (h1 : 1 ≤ lo) (h2 : lo ≤ d.low) : Lok (Tbk d lw lo g) := by
  obtain ⟨b1, b2, b3⟩ := bk_le h hl
  have hw := h.lw
  refine ⟨⟨h1, by show lo ≤ 401; omega⟩, fun j j1 j2 => h.sv j j1 (by have j2 : j ≤ lw := j2; omega), fun j j1 j2 => h.up j j1 (by have j2 : j < lw := j2; omega), fun q => h.up lw q hl, fun p hp => ?_, fun p j hp j1 j2 => ?_, ⟨?_, fun q => ?_⟩⟩
  · have hp : p < d.L (lw + 1) := hp
    refine ⟨(h.lv p (by omega)).1, ?_⟩
    have h4 := h.vs p (lw + 1) (by omega) (by omega) (by omega)
    show d.V p ≤ lw
    rcases Nat.lt_or_ge lw (d.V p) with q | q
    · have := h4.mpr q; omega
    · exact q
  · have hp : p < d.L (lw + 1) := hp
    have j2 : j ≤ lw := j2
    exact h.vs p j (by omega) j1 (by omega)
  · show min d.fo (d.L (lw + 1)) ≤ d.L (lw + 1); omega
  · have q : 1 ≤ lw := q
    have := h.le (i := lw) (j := lw + 1) q (by omega) (by omega)
    show d.L lw ≤ min d.fo (d.L (lw + 1)); omega
theorem Gok.bk {a : Rx} {d : Tx} {w : Wx} (h : Gok a d w) {lw lo : Nat} {g : Nat → Int32} (hl : lw < d.lev) (hh : (∀ c, (∀ p, d.L (lw + 1) ≤ p → p < d.k → d.O p ≠ c ∧ fl (d.O p) ≠ c) → g c = d.tv c) ∧ (∀ p, d.L (lw + 1) ≤ p → p < d.k → g (d.O p) = 0 ∧ g (fl (d.O p)) = 0) ∧ 1 ≤ lo ∧ lo ≤ d.low) : Gok a (Tbk d lw lo g) w := by
  obtain ⟨b1, b2, b3⟩ := bk_le h.L hl
  refine ⟨h.R, h.T.shr (Nat.le_of_lt b1) hh.1 hh.2.1, h.L.bk hl hh.2.2.1 hh.2.2.2, fun p hp => ?_, h.W, h.nn⟩
  have hp : p < d.L (lw + 1) := hp
  exact h.Z p (by omega)
/-- a try of code c -/
def Ttry (d : Tx) (c : Nat) : Tx := Tx.of (d.k + 1) d.fo (d.lev + 1) d.low (upd (upd d.tv c 1) (fl c) 2) (upd d.ov d.k (nI c)) (upd d.lv (c / 2) (nI (d.lev + 1))) (upd d.rv (c / 2) (-1)) (upd d.sv (d.lev + 1) (nI d.k)) (upN d.O d.k c) (upN d.L (d.lev + 1) d.k) (upN d.V d.k (d.lev + 1))
theorem Gok.try {a : Rx} {d : Tx} {w : Wx} (h : Gok a d w) {c : Nat} (h1 : 2 ≤ c) (h2 : c < 802) (h3 : d.tv c = 0) (hf : d.fo = d.k) : Gok a (Ttry d c) w := by
  have hT := h.T.put (-1) h1 h2 h3
  have hu := h.T.un h3
  have hO : ∀ p, p < d.k → (Ttry d c).O p = d.O p := fun p hp => upN_n (by omega)
  have hOk : (Ttry d c).O d.k = c := upN_s
  have hV : ∀ p, p < d.k → (Ttry d c).V p = d.V p := fun p hp => upN_n (by omega)
  have hVk : (Ttry d c).V d.k = d.lev + 1 := upN_s
  have hL : ∀ j, j ≤ d.lev → (Ttry d c).L j = d.L j := fun j hj => upN_n (by omega)
  have hLl : (Ttry d c).L (d.lev + 1) = d.k := upN_s
  refine ⟨h.R, hT, ⟨h.L.lw, fun j j1 j2 => ?_, fun j j1 j2 => ?_, fun _ => ?_, fun p hp => ?_, fun p j hp j1 j2 => ?_, ⟨?_, fun _ => ?_⟩⟩, fun p hp => ?_, h.W, h.nn⟩
  · have j2 : j ≤ d.lev + 1 := j2
    show upd d.sv (d.lev + 1) (nI d.k) j = _
    by_cases hj : j = d.lev + 1
    · rw [hj, hLl, pk_us]
    · rw [hL j (by omega), pk_un hj]; exact h.L.sv j j1 (by omega)
  · have j2 : j < d.lev + 1 := j2
    by_cases hj : j = d.lev
    · rw [hL j (by omega), hj, hLl]; exact h.L.tp (by omega)
    · rw [hL j (by omega), hL (j + 1) (by omega)]; exact h.L.up j j1 (by omega)
  · show (Ttry d c).L (d.lev + 1) < d.k + 1; rw [hLl]; omega
  · have hp : p < d.k + 1 := hp
    show upd d.lv (c / 2) (nI (d.lev + 1)) _ = _ ∧ _ ≤ d.lev + 1
    by_cases hq : p = d.k
    · rw [hq, hOk, hVk, pk_us]; exact ⟨rfl, Nat.le_refl _⟩
    · have := h.L.lv p (by omega)
      rw [hO p (by omega), hV p (by omega), pk_un (hu p (by omega))]; exact ⟨this.1, by omega⟩
  · have hp : p < d.k + 1 := hp
    have j2 : j ≤ d.lev + 1 := j2
    by_cases hq : p = d.k
    · rw [hq, hVk]
      refine ⟨fun _ => j2, fun _ => ?_⟩
      by_cases hj : j = d.lev + 1
      · rw [hj, hLl]; exact Nat.le_refl _
      · rw [hL j (by omega)]
        have := h.L.le j1 (show j ≤ d.lev by omega) (Nat.le_refl _); have := h.L.tp (by omega); omega
    · rw [hV p (by omega)]
      have hv := (h.L.lv p (by omega)).2
      by_cases hj : j = d.lev + 1
      · rw [hj, hLl]; omega
      · rw [hL j (by omega)]; exact h.L.vs p j (by omega) j1 (by omega)
  · show d.fo ≤ d.k + 1; omega
  · show (Ttry d c).L (d.lev + 1) ≤ d.fo; rw [hLl]; omega
  · have hp : p < d.k + 1 := hp
    by_cases hq : p = d.k
    · rw [hq, hOk, hVk, hLl]
      exact Or.inl ⟨pk_us, Or.inr rfl⟩
    · rw [hO p (by omega), hV p (by omega)]
      have hr : (Ttry d c).rv (d.O p / 2) = d.rv (d.O p / 2) := pk_un (hu p (by omega))
      rw [hr, hL (d.V p) (h.L.lv p (by omega)).2]
      rcases h.Z p (by omega) with q | ⟨r, r1, r2, r3, r4⟩
      · exact Or.inl q
      · exact Or.inr ⟨r, r1, r2, r3, fun j j1 j2 j3 => by obtain ⟨q, q1, q2⟩ := r4 j j1 j2 j3; exact ⟨q, q1, by rw [hO q (by omega)]; exact q2⟩⟩
/-- the facts -/
def Aok (x : Sx) : Prop := (∀ j, j < x.fc → x.fv j = nI (x.F j) ∧ 2 ≤ x.F j ∧ x.F j < 802 ∧ x.fi (x.F j) ≠ 0) ∧ (∀ i j, i < x.fc → j < x.fc → x.F i = x.F j → i = j)
theorem Aok.fv {x : Sx} (h : Aok x) : ∀ j, j < x.fc → x.fv j = nI (x.F j) ∧ 2 ≤ x.F j ∧ x.F j < 802 ∧ x.fi (x.F j) ≠ 0 := h.1
theorem Aok.ij {x : Sx} (h : Aok x) : ∀ i j, i < x.fc → j < x.fc → x.F i = x.F j → i = j := h.2
theorem Aok.fc {x : Sx} (h : Aok x) : x.fc ≤ 800 := by
  have := pg 800 x.fc (fun j => x.F j - 2) (fun j hj => by have := h.fv j hj; show x.F j - 2 < 800; omega) (fun i j hi hj e => h.ij i j hi hj (by
    have e : x.F i - 2 = x.F j - 2 := e
    have := h.fv i hi; have := h.fv j hj; omega))
  exact this
theorem Gok.fact {a : Rx} {d : Tx} {w : Wx} (h : Gok a d w) {c : Nat} (h1 : 2 ≤ c) (h2 : c < 802) (h3 : d.tv c = 0) (h0 : d.lev = 0) : Gok a (Tput d c (-1)) w :=
  ⟨h.R, h.T.put _ h1 h2 h3, h.L.put h.T _ h3, h.Z.put h.T h3 (Or.inl ⟨rfl, h0⟩), h.W, h.nn⟩
def Tlow (d : Tx) (lo : Nat) : Tx := Tx.of d.k d.fo d.lev lo d.tv d.ov d.lv d.rv d.sv d.O d.L d.V
theorem Gok.low {a : Rx} {d : Tx} {w : Wx} (h : Gok a d w) {lo : Nat} (h1 : 1 ≤ lo ∧ lo ≤ 401) : Gok a (Tlow d lo) w :=
  ⟨h.R, h.T, ⟨h1, h.L.sv, h.L.up, h.L.tp, h.L.lv, h.L.vs, h.L.fo⟩, h.Z, h.W, h.nn⟩
theorem Tok.odd {d : Tx} (h : Tok d) {v : Nat} (h1 : 1 ≤ v) (h2 : v ≤ 400) (h3 : d.tv (2 * v) = 0) : d.tv (2 * v + 1) ≠ 1 := by
  intro e
  obtain ⟨p, p1, p2⟩ := h.yes (by omega) (by omega) e
  have h4 := (h.tr p p1).2
  have h5 : fl (2 * v + 1) = 2 * v := by unfold fl; split <;> omega
  rw [p2, h5, h3] at h4
  exact absurd h4 (by decide)
