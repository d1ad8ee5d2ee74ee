def Rx : Type := (Nat) × (Nat) × (Nat) × (Nat → Int32) × (Nat → Int32) × (Nat → Int32) × (Nat → Nat) × (Nat → Nat)
def Rx.la (a : Rx) : Nat := a.1
def Rx.lc (a : Rx) : Nat := a.2.1
def Rx.n (a : Rx) : Nat := a.2.2.1
def Rx.sf (a : Rx) : Nat → Int32 := a.2.2.2.1
def Rx.kf (a : Rx) : Nat → Int32 := a.2.2.2.2.1
def Rx.cf (a : Rx) : Nat → Int32 := a.2.2.2.2.2.1
def Rx.S (a : Rx) : Nat → Nat := a.2.2.2.2.2.2.1
def Rx.C (a : Rx) : Nat → Nat := a.2.2.2.2.2.2.2
def Rx.of (la : Nat) (lc : Nat) (n : Nat) (sf : Nat → Int32) (kf : Nat → Int32) (cf : Nat → Int32) (S : Nat → Nat) (C : Nat → Nat) : Rx := (la, lc, n, sf, kf, cf, S, C)
def Tx : Type := (Nat) × (Nat) × (Nat) × (Nat) × (Nat → Int32) × (Nat → Int32) × (Nat → Int32) × (Nat → Int32) × (Nat → Int32) × (Nat → Nat) × (Nat → Nat) × (Nat → Nat)
def Tx.k (a : Tx) : Nat := a.1
def Tx.fo (a : Tx) : Nat := a.2.1
def Tx.lev (a : Tx) : Nat := a.2.2.1
def Tx.low (a : Tx) : Nat := a.2.2.2.1
def Tx.tv (a : Tx) : Nat → Int32 := a.2.2.2.2.1
def Tx.ov (a : Tx) : Nat → Int32 := a.2.2.2.2.2.1
def Tx.lv (a : Tx) : Nat → Int32 := a.2.2.2.2.2.2.1
def Tx.rv (a : Tx) : Nat → Int32 := a.2.2.2.2.2.2.2.1
def Tx.sv (a : Tx) : Nat → Int32 := a.2.2.2.2.2.2.2.2.1
def Tx.O (a : Tx) : Nat → Nat := a.2.2.2.2.2.2.2.2.2.1
def Tx.L (a : Tx) : Nat → Nat := a.2.2.2.2.2.2.2.2.2.2.1
def Tx.V (a : Tx) : Nat → Nat := a.2.2.2.2.2.2.2.2.2.2.2
def Tx.of (k : Nat) (fo : Nat) (lev : Nat) (low : Nat) (tv : Nat → Int32) (ov : Nat → Int32) (lv : Nat → Int32) (rv : Nat → Int32) (sv : Nat → Int32) (O : Nat → Nat) (L : Nat → Nat) (V : Nat → Nat) : Tx := (k, fo, lev, low, tv, ov, lv, rv, sv, O, L, V)
def Wx : Type := (Nat) × (Nat → Int32) × (Nat → Int32)
def Wx.nn (a : Wx) : Nat := a.1
def Wx.hd (a : Wx) : Nat → Int32 := a.2.1
def Wx.nx (a : Wx) : Nat → Int32 := a.2.2
def Wx.of (nn : Nat) (hd : Nat → Int32) (nx : Nat → Int32) : Wx := (nn, hd, nx)
/-- a function of numbers, changed at one place -/
def upN (f : Nat → Nat) (a x : Nat) : Nat → Nat := fun j => if j = a then x else f j
theorem upN_s {f : Nat → Nat} {a x : Nat} : upN f a x a = x := by simp [upN]
theorem upN_n {f : Nat → Nat} {a x j : Nat} (h : j ≠ a) : upN f a x j = f j := by simp [upN, h]
/-- the rows: starts and codes -/
def Rok (a : Rx) : Prop := (a.n < a.la) ∧ (a.la ≤ 1048576) ∧ (a.lc ≤ 4194304) ∧ (∀ r, r ≤ a.n → a.sf r = nI (a.S r)) ∧ (∀ r, r < a.n → a.S r + 2 ≤ a.S (r + 1)) ∧ (a.S a.n ≤ a.lc) ∧ (∀ j, j < a.S a.n → a.cf j = nI (a.C j) ∧ 2 ≤ a.C j ∧ a.C j < 802)
theorem Rok.n1 {a : Rx} (h : Rok a) : a.n < a.la := h.1
theorem Rok.la {a : Rx} (h : Rok a) : a.la ≤ 1048576 := h.2.1
theorem Rok.lc {a : Rx} (h : Rok a) : a.lc ≤ 4194304 := h.2.2.1
theorem Rok.sf {a : Rx} (h : Rok a) : ∀ r, r ≤ a.n → a.sf r = nI (a.S r) := h.2.2.2.1
theorem Rok.up {a : Rx} (h : Rok a) : ∀ r, r < a.n → a.S r + 2 ≤ a.S (r + 1) := h.2.2.2.2.1
theorem Rok.top {a : Rx} (h : Rok a) : a.S a.n ≤ a.lc := h.2.2.2.2.2.1
theorem Rok.cf {a : Rx} (h : Rok a) : ∀ j, j < a.S a.n → a.cf j = nI (a.C j) ∧ 2 ≤ a.C j ∧ a.C j < 802 := h.2.2.2.2.2.2
theorem Rok.mono {a : Rx} (h : Rok a) : ∀ d r, r + d ≤ a.n → a.S r + 2 * d ≤ a.S (r + d) := by
  intro d
  induction d with
  | zero => intro r _; exact Nat.le_refl _
  | succ d ih => intro r hr; have := ih r (by omega); have := h.up (r + d) (by omega); rw [show r + (d + 1) = r + d + 1 by omega]; omega
theorem Rok.le {a : Rx} (h : Rok a) {r q : Nat} (h1 : r ≤ q) (h2 : q ≤ a.n) : a.S r + 2 * (q - r) ≤ a.S q := by
  have := h.mono (q - r) r (by omega); rwa [show r + (q - r) = q by omega] at this
theorem Rok.inb {a : Rx} (h : Rok a) {r : Nat} (h1 : r < a.n) : a.S r + 2 ≤ a.S (r + 1) ∧ a.S (r + 1) ≤ a.S a.n ∧ a.S a.n ≤ a.lc ∧ a.lc ≤ 4194304 ∧ a.n < a.la ∧ a.la ≤ 1048576 := by
  have h2 := h.up r h1; have h3 := h.le (r := r + 1) (q := a.n) (by omega) (Nat.le_refl _); have := h.top; have := h.lc; have := h.n1; have := h.la
  omega
/-- the code that a node waits for -/
def nodeAt (a : Rx) (m : Nat) : Nat := a.C (a.S (m / 2) + m % 2)
/-- the chains: node m waits in the chain of its code; P is a node out of them, c its code -/
def Wok (a : Rx) (w : Wx) (M : Nat) : Prop := (∀ c, c < 802 → w.hd c = -1 ∨ ∃ m, m < M ∧ w.hd c = nI m ∧ nodeAt a m = c) ∧ (∀ m, m < M → w.nx m = -1 ∨ ∃ q, q < M ∧ w.nx m = nI q ∧ nodeAt a q = nodeAt a m) ∧ (∀ m q, m < M → q < M → w.nx m = w.nx q → w.nx m = -1 ∨ m = q) ∧ (∀ c m, c < 802 → m < M → w.hd c = w.nx m → w.hd c = -1)
theorem Wok.hd {a : Rx} {w : Wx} {M : Nat} (h : Wok a w M) : ∀ c, c < 802 → w.hd c = -1 ∨ ∃ m, m < M ∧ w.hd c = nI m ∧ nodeAt a m = c := h.1
theorem Wok.nx {a : Rx} {w : Wx} {M : Nat} (h : Wok a w M) : ∀ m, m < M → w.nx m = -1 ∨ ∃ q, q < M ∧ w.nx m = nI q ∧ nodeAt a q = nodeAt a m := h.2.1
theorem Wok.ij {a : Rx} {w : Wx} {M : Nat} (h : Wok a w M) : ∀ m q, m < M → q < M → w.nx m = w.nx q → w.nx m = -1 ∨ m = q := h.2.2.1
theorem Wok.hn {a : Rx} {w : Wx} {M : Nat} (h : Wok a w M) : ∀ c m, c < 802 → m < M → w.hd c = w.nx m → w.hd c = -1 := h.2.2.2
/-- no chain leads to m -/
def Wfree (w : Wx) (M m : Nat) : Prop := (∀ c, c < 802 → w.hd c ≠ nI m) ∧ ∀ q, q < M → w.nx q ≠ nI m
theorem pg (n : Nat) : ∀ (k : Nat) (f : Nat → Nat), (∀ p, p < k → f p < n) → (∀ p q, p < k → q < k → f p = f q → p = q) → k ≤ n := by
  induction n with
  | zero => intro k f h1 _; rcases Nat.eq_zero_or_pos k with q | q; omega; exact absurd (h1 0 q) (Nat.not_lt_zero _)
  | succ n ih =>
    intro k f h1 h2
    rcases Nat.eq_zero_or_pos k with q | q
    · omega
    · by_cases he : ∃ p, p < k ∧ f p = n
      · obtain ⟨p0, hp0, e0⟩ := he
        have := ih (k - 1) (fun p => if p = p0 then f (k - 1) else f p) (fun p hp => by
          show (if p = p0 then f (k - 1) else f p) < n
          by_cases hq : p = p0
          · rw [if_pos hq]
            have h3 := h1 (k - 1) (by omega)
            have h4 : f (k - 1) ≠ n := fun e => by have := h2 (k - 1) p0 (by omega) hp0 (e.trans e0.symm); omega
            omega
          · rw [if_neg hq]
            have h3 := h1 p (by omega)
            have h4 : f p ≠ n := fun e => hq (h2 p p0 (by omega) hp0 (e.trans e0.symm))
            omega) (fun p r hp hr e => by
          have e : (if p = p0 then f (k - 1) else f p) = (if r = p0 then f (k - 1) else f r) := e
          by_cases hq : p = p0
          · by_cases hs : r = p0
            · omega
            · rw [if_pos hq, if_neg hs] at e
              have := h2 (k - 1) r (by omega) (by omega) e; omega
          · by_cases hs : r = p0
            · rw [if_neg hq, if_pos hs] at e
              have := h2 p (k - 1) (by omega) (by omega) e; omega
            · rw [if_neg hq, if_neg hs] at e
              exact h2 p r (by omega) (by omega) e)
        omega
      · have := ih k f (fun p hp => by
          have h3 := h1 p hp
          have h4 : f p ≠ n := fun e => he ⟨p, hp, e⟩
          omega) h2
        omega
theorem nI_m1 {r : Nat} (h : r < 2 ^ 31) : nI r ≠ -1 := by
  intro e
  have h1 := nI_clamp (n := r) h
  rw [e] at h1
  have h2 : (-1 : Int32).toNatClampNeg = 0 := by decide
  have h3 : r = 0 := by omega
  subst h3
  exact absurd e (by decide)
/-- the truths and their order -/
def Tok (d : Tx) : Prop := (∀ p, p < d.k → d.ov p = nI (d.O p) ∧ 2 ≤ d.O p ∧ d.O p < 802) ∧ (∀ p, p < d.k → d.tv (d.O p) = 1 ∧ d.tv (fl (d.O p)) = 2) ∧ (∀ p q, p < d.k → q < d.k → d.O p / 2 = d.O q / 2 → p = q) ∧ (∀ c, 2 ≤ c → c < 802 → d.tv c ≠ 0 → ∃ p, p < d.k ∧ d.O p / 2 = c / 2)
theorem Tok.ov {d : Tx} (h : Tok d) : ∀ p, p < d.k → d.ov p = nI (d.O p) ∧ 2 ≤ d.O p ∧ d.O p < 802 := h.1
theorem Tok.tr {d : Tx} (h : Tok d) : ∀ p, p < d.k → d.tv (d.O p) = 1 ∧ d.tv (fl (d.O p)) = 2 := h.2.1
theorem Tok.ds {d : Tx} (h : Tok d) : ∀ p q, p < d.k → q < d.k → d.O p / 2 = d.O q / 2 → p = q := h.2.2.1
theorem Tok.kn {d : Tx} (h : Tok d) : ∀ c, 2 ≤ c → c < 802 → d.tv c ≠ 0 → ∃ p, p < d.k ∧ d.O p / 2 = c / 2 := h.2.2.2
theorem Tok.k400 {d : Tx} (h : Tok d) : d.k ≤ 400 := by
  have := pg 400 d.k (fun p => d.O p / 2 - 1) (fun p hp => by have := (h.ov p hp).2; show d.O p / 2 - 1 < 400; omega) (fun p q hp hq e => h.ds p q hp hq (by
    have e : d.O p / 2 - 1 = d.O q / 2 - 1 := e
    have := (h.ov p hp).2; have := (h.ov q hq).2; omega))
  exact this
theorem Tok.no {d : Tx} (h : Tok d) {c : Nat} (h1 : 2 ≤ c) (h2 : c < 802) (h3 : d.tv c = 2) : ∃ p, p < d.k ∧ d.O p = fl c := by
  obtain ⟨p, hp, e⟩ := h.kn c h1 h2 (by rw [h3]; decide)
  refine ⟨p, hp, ?_⟩
  rcases fl_of e with q | q
  · rw [q, (h.tr p hp).1] at h3; exact absurd h3 (by decide)
  · rw [q, fl_fl]
theorem Tok.yes {d : Tx} (h : Tok d) {c : Nat} (h1 : 2 ≤ c) (h2 : c < 802) (h3 : d.tv c = 1) : ∃ p, p < d.k ∧ d.O p = c := by
  obtain ⟨p, hp, e⟩ := h.kn c h1 h2 (by rw [h3]; decide)
  refine ⟨p, hp, ?_⟩
  rcases fl_of e with q | q
  · exact q.symm
  · rw [q, (h.tr p hp).2] at h3; exact absurd h3 (by decide)
theorem Tok.val {d : Tx} (h : Tok d) {c : Nat} (h1 : 2 ≤ c) (h2 : c < 802) : d.tv c = 0 ∨ d.tv c = 1 ∨ d.tv c = 2 := by
  by_cases h3 : d.tv c = 0
  · exact Or.inl h3
  · obtain ⟨p, hp, e⟩ := h.kn c h1 h2 h3
    rcases fl_of e with q | q
    · rw [q]; exact Or.inr (Or.inl (h.tr p hp).1)
    · rw [q]; exact Or.inr (Or.inr (h.tr p hp).2)
theorem Tok.un {d : Tx} (h : Tok d) {c : Nat} (h3 : d.tv c = 0) : ∀ p, p < d.k → d.O p / 2 ≠ c / 2 := by
  intro p hp e
  rcases fl_of e with q | q
  · rw [q, (h.tr p hp).1] at h3; exact absurd h3 (by decide)
  · rw [q, (h.tr p hp).2] at h3; exact absurd h3 (by decide)
/-- the trail with one truth more -/
def Tput (d : Tx) (c : Nat) (be : Int32) : Tx := Tx.of (d.k + 1) d.fo d.lev d.low (upd (upd d.tv c 1) (fl c) 2) (upd d.ov d.k (nI c)) (upd d.lv (c / 2) (nI d.lev)) (upd d.rv (c / 2) be) d.sv (upN d.O d.k c) d.L (upN d.V d.k d.lev)
theorem fl_lt {c : Nat} (h1 : 2 ≤ c) (h2 : c < 802) : 2 ≤ fl c ∧ fl c < 802 := by have := fl_in (n := 400) h1 (by omega); omega
theorem tv_put {f : Nat → Int32} {c x : Nat} (h : x / 2 ≠ c / 2) : upd (upd f c 1) (fl c) 2 x = f x := by
  rw [pk_un (fun e => h (by rw [e, fl_var])), pk_un (fun e => h (by rw [e]))]
theorem tv_put1 {f : Nat → Int32} {c : Nat} : upd (upd f c 1) (fl c) 2 c = 1 := by
  rw [pk_un (fun e => fl_ne c e.symm), pk_us]
theorem Tok.put {d : Tx} (h : Tok d) {c : Nat} (be : Int32) (h1 : 2 ≤ c) (h2 : c < 802) (h3 : d.tv c = 0) : Tok (Tput d c be) := by
  have hu := h.un h3
  have hc : ∀ p, p < (Tput d c be).k → p < d.k ∨ p = d.k := fun p hp => by have hp : p < d.k + 1 := hp; omega
  have hO : ∀ p, p < d.k → (Tput d c be).O p = d.O p := fun p hp => upN_n (by omega)
  have hOk : (Tput d c be).O d.k = c := upN_s
  refine ⟨fun p hp => ?_, fun p hp => ?_, fun p q hp hq e => ?_, fun x hx1 hx2 hx3 => ?_⟩
  · rcases hc p hp with q | q
    · rw [hO p q]; show upd d.ov d.k (nI c) p = _ ∧ _; rw [pk_un (by omega)]; exact h.ov p q
    · rw [q, hOk]; show upd d.ov d.k (nI c) d.k = _ ∧ _; rw [pk_us]; exact ⟨rfl, h1, h2⟩
  · rcases hc p hp with q | q
    · rw [hO p q]; show upd (upd d.tv c 1) (fl c) 2 (d.O p) = 1 ∧ upd (upd d.tv c 1) (fl c) 2 (fl (d.O p)) = 2
      rw [tv_put (hu p q), tv_put (by rw [fl_var]; exact hu p q)]; exact h.tr p q
    · rw [q, hOk]; exact ⟨tv_put1, pk_us⟩
  · rcases hc p hp with q1 | q1 <;> rcases hc q hq with q2 | q2
    · rw [hO p q1, hO q q2] at e; exact h.ds p q q1 q2 e
    · rw [hO p q1, q2, hOk] at e; exact absurd e (hu p q1)
    · rw [hO q q2, q1, hOk] at e; exact absurd e.symm (hu q q2)
    · omega
  · have hx3 : upd (upd d.tv c 1) (fl c) 2 x ≠ 0 := hx3
    by_cases hv : x / 2 = c / 2
    · exact ⟨d.k, Nat.lt_succ_self _, by rw [hOk]; exact hv.symm⟩
    · rw [tv_put hv] at hx3
      obtain ⟨p, hp, e⟩ := h.kn x hx1 hx2 hx3
      exact ⟨p, Nat.lt_succ_of_lt hp, by rw [hO p hp]; exact e⟩
/-- the levels -/
def Lok (d : Tx) : Prop := (1 ≤ d.low ∧ d.low ≤ 401) ∧ (∀ j, 1 ≤ j → j ≤ d.lev → d.sv j = nI (d.L j)) ∧ (∀ j, 1 ≤ j → j < d.lev → d.L j < d.L (j + 1)) ∧ (1 ≤ d.lev → d.L d.lev < d.k) ∧ (∀ p, p < d.k → d.lv (d.O p / 2) = nI (d.V p) ∧ d.V p ≤ d.lev) ∧ (∀ p j, p < d.k → 1 ≤ j → j ≤ d.lev → (d.L j ≤ p ↔ j ≤ d.V p)) ∧ (d.fo ≤ d.k ∧ (1 ≤ d.lev → d.L d.lev ≤ d.fo))
theorem Lok.lw {d : Tx} (h : Lok d) : 1 ≤ d.low ∧ d.low ≤ 401 := h.1
theorem Lok.sv {d : Tx} (h : Lok d) : ∀ j, 1 ≤ j → j ≤ d.lev → d.sv j = nI (d.L j) := h.2.1
theorem Lok.up {d : Tx} (h : Lok d) : ∀ j, 1 ≤ j → j < d.lev → d.L j < d.L (j + 1) := h.2.2.1
theorem Lok.tp {d : Tx} (h : Lok d) : 1 ≤ d.lev → d.L d.lev < d.k := h.2.2.2.1
theorem Lok.lv {d : Tx} (h : Lok d) : ∀ p, p < d.k → d.lv (d.O p / 2) = nI (d.V p) ∧ d.V p ≤ d.lev := h.2.2.2.2.1
theorem Lok.vs {d : Tx} (h : Lok d) : ∀ p j, p < d.k → 1 ≤ j → j ≤ d.lev → (d.L j ≤ p ↔ j ≤ d.V p) := h.2.2.2.2.2.1
theorem Lok.fo {d : Tx} (h : Lok d) : d.fo ≤ d.k ∧ (1 ≤ d.lev → d.L d.lev ≤ d.fo) := h.2.2.2.2.2.2
theorem Lok.mono {d : Tx} (h : Lok d) : ∀ e j, 1 ≤ j → j + e ≤ d.lev → d.L j + e ≤ d.L (j + e) := by
  intro e
  induction e with
  | zero => intro j _ _; exact Nat.le_refl _
  | succ e ih => intro j h1 h2; have := ih j h1 (by omega); have := h.up (j + e) (by omega) (by omega); rw [show j + (e + 1) = j + e + 1 by omega]; omega
theorem Lok.le {d : Tx} (h : Lok d) {i j : Nat} (h1 : 1 ≤ i) (h2 : i ≤ j) (h3 : j ≤ d.lev) : d.L i + (j - i) ≤ d.L j := by
  have := h.mono (j - i) i h1 (by omega); rwa [show i + (j - i) = j by omega] at this
theorem Lok.lev {d : Tx} (h : Lok d) : d.lev ≤ d.k := by
  rcases Nat.eq_zero_or_pos d.lev with q | q
  · omega
  · have := h.le (i := 1) (j := d.lev) (Nat.le_refl _) q (Nat.le_refl _); have := h.tp q; omega
theorem Lok.put {d : Tx} (h : Lok d) (hT : Tok d) {c : Nat} (be : Int32) (h3 : d.tv c = 0) : Lok (Tput d c be) := by
  have hu := hT.un h3
  have hc : ∀ p, p < (Tput d c be).k → p < d.k ∨ p = d.k := fun p hp => by have hp : p < d.k + 1 := hp; omega
  have hO : ∀ p, p < d.k → (Tput d c be).O p = d.O p := fun p hp => upN_n (by omega)
  have hOk : (Tput d c be).O d.k = c := upN_s
  have hV : ∀ p, p < d.k → (Tput d c be).V p = d.V p := fun p hp => upN_n (by omega)
  have hVk : (Tput d c be).V d.k = d.lev := upN_s
  refine ⟨h.lw, h.sv, h.up, fun q => Nat.lt_succ_of_lt (h.tp q), fun p hp => ?_, fun p j hp hj1 hj2 => ?_, ⟨Nat.le_succ_of_le h.fo.1, h.fo.2⟩⟩
  · rcases hc p hp with q | q
    · rw [hO p q, hV p q]; show upd d.lv (c / 2) (nI d.lev) (d.O p / 2) = _ ∧ _; rw [pk_un (hu p q)]; exact h.lv p q
    · rw [q, hOk, hVk]; show upd d.lv (c / 2) (nI d.lev) (c / 2) = _ ∧ _; rw [pk_us]; exact ⟨rfl, Nat.le_refl _⟩
  · rcases hc p hp with q | q
    · rw [hV p q]; exact h.vs p j q hj1 hj2
    · rw [q, hVk]
      have hj2 : j ≤ d.lev := hj2
      have h4 := h.le hj1 hj2 (Nat.le_refl _); have h5 := h.tp (by omega)
      exact ⟨fun _ => hj2, fun _ => by show d.L j ≤ d.k; omega⟩
/-- the reasons -/
def Sok (a : Rx) (d : Tx) : Prop := ∀ p, p < d.k → (d.rv (d.O p / 2) = -1 ∧ (d.V p = 0 ∨ d.L (d.V p) = p)) ∨ ∃ r, r < a.n ∧ d.rv (d.O p / 2) = nI r ∧ (a.C (a.S r) = d.O p ∨ a.C (a.S r + 1) = d.O p) ∧ ∀ j, a.S r ≤ j → j < a.S (r + 1) → a.C j ≠ d.O p → ∃ q, q < p ∧ d.O q = fl (a.C j)
theorem Sok.put {a : Rx} {d : Tx} (h : Sok a d) (hT : Tok d) {c : Nat} {be : Int32} (h3 : d.tv c = 0) (hb : (be = -1 ∧ d.lev = 0) ∨ ∃ r, r < a.n ∧ be = nI r ∧ (a.C (a.S r) = c ∨ a.C (a.S r + 1) = c) ∧ ∀ j, a.S r ≤ j → j < a.S (r + 1) → a.C j ≠ c → ∃ q, q < d.k ∧ d.O q = fl (a.C j)) : Sok a (Tput d c be) := by
  have hu := hT.un h3
  have hO : ∀ p, p < d.k → (Tput d c be).O p = d.O p := fun p hp => upN_n (by omega)
  have hOk : (Tput d c be).O d.k = c := upN_s
  have hV : ∀ p, p < d.k → (Tput d c be).V p = d.V p := fun p hp => upN_n (by omega)
  have hVk : (Tput d c be).V d.k = d.lev := upN_s
  intro p hp
  have hp : p < d.k + 1 := hp
  by_cases hpk : p < d.k
  · rw [hO p hpk, hV p hpk]
    have hr : (Tput d c be).rv (d.O p / 2) = d.rv (d.O p / 2) := pk_un (hu p hpk)
    rw [hr]
    rcases h p hpk with q | ⟨r, r1, r2, r3, r4⟩
    · exact Or.inl q
    · exact Or.inr ⟨r, r1, r2, r3, fun j j1 j2 j3 => by obtain ⟨q, q1, q2⟩ := r4 j j1 j2 j3; exact ⟨q, q1, by rw [hO q (by omega)]; exact q2⟩⟩
  · obtain rfl : p = d.k := by omega
    rw [hOk, hVk]
    have hr : (Tput d c be).rv (c / 2) = be := pk_us
    rw [hr]
    rcases hb with ⟨b1, b2⟩ | ⟨r, r1, r2, r3, r4⟩
    · exact Or.inl ⟨b1, Or.inl b2⟩
    · exact Or.inr ⟨r, r1, r2, r3, fun j j1 j2 j3 => by obtain ⟨q, q1, q2⟩ := r4 j j1 j2 j3; exact ⟨q, q1, by rw [hO q q1]; exact q2⟩⟩
/-- two codes change places -/
def Swap (a : Rx) (i j : Nat) : Rx := Rx.of a.la a.lc a.n a.sf a.kf (upd (upd a.cf i (nI (a.C j))) j (nI (a.C i))) a.S (upN (upN a.C i (a.C j)) j (a.C i))
/-- node m is hung into the chain of code c -/
def Hang (w : Wx) (m c : Nat) : Wx := Wx.of w.nn (upd w.hd c (nI m)) (upd w.nx m (w.hd c))
/-- a pointer to a node of code c that no chain leads to -/
def Pend (a : Rx) (w : Wx) (M c : Nat) (x : Int32) : Prop := x = -1 ∨ ∃ q, q < M ∧ x = nI q ∧ nodeAt a q = c ∧ Wfree w M q
theorem Wok.hang {a a' : Rx} {w : Wx} {M m c : Nat} (h : Wok a w M) (hM : M < 2 ^ 31) (hm : m < M) (hf : Wfree w M m) (hc : c < 802) (h1 : ∀ q, q < M → q ≠ m → nodeAt a' q = nodeAt a q) (h2 : nodeAt a' m = c) : Wok a' (Hang w m c) M ∧ Pend a' (Hang w m c) M (nodeAt a m) (w.nx m) := by
  have en : ∀ x y : Nat, x < M → y < M → nI x = nI y → x = y := fun x y hx hy e => (nI_eq (by omega) (by omega)).mp e
  have e1 : ∀ x, x ≠ c → (Hang w m c).hd x = w.hd x := fun x hx => pk_un hx
  have e2 : (Hang w m c).hd c = nI m := pk_us
  have e3 : ∀ y, y ≠ m → (Hang w m c).nx y = w.nx y := fun y hy => pk_un hy
  have e4 : (Hang w m c).nx m = w.hd c := pk_us
  refine ⟨⟨fun x hx => ?_, fun y hy => ?_, fun y z hy hz e => ?_, fun x y hx hy e => ?_⟩, ?_⟩
  · by_cases hxc : x = c
    · subst hxc; exact Or.inr ⟨m, hm, e2, h2⟩
    · rw [e1 x hxc]
      rcases h.hd x hx with q | ⟨q, q1, q2, q3⟩
      · exact Or.inl q
      · have hq : q ≠ m := fun e => hf.1 x hx (by rw [q2, e])
        exact Or.inr ⟨q, q1, q2, by rw [h1 q q1 hq]; exact q3⟩
  · by_cases hym : y = m
    · subst hym; rw [e4]
      rcases h.hd c hc with q | ⟨q, q1, q2, q3⟩
      · exact Or.inl q
      · have hq : q ≠ y := fun e => hf.1 c hc (by rw [q2, e])
        exact Or.inr ⟨q, q1, q2, by rw [h1 q q1 hq, q3, h2]⟩
    · rw [e3 y hym]
      rcases h.nx y hy with q | ⟨q, q1, q2, q3⟩
      · exact Or.inl q
      · have hq : q ≠ m := fun e => hf.2 y hy (by rw [q2, e])
        exact Or.inr ⟨q, q1, q2, by rw [h1 q q1 hq, h1 y hy hym]; exact q3⟩
  · by_cases hym : y = m
    · by_cases hzm : z = m
      · exact Or.inr (by omega)
      · subst hym; rw [e4, e3 z hzm] at e; rw [e4]; exact Or.inl (h.hn c z hc hz e)
    · by_cases hzm : z = m
      · subst hzm; rw [e4, e3 y hym] at e; rw [e3 y hym, e]; exact Or.inl (h.hn c y hc hy e.symm)
      · rw [e3 y hym, e3 z hzm] at e; rw [e3 y hym]; exact h.ij y z hy hz e
  · by_cases hxc : x = c
    · subst hxc
      rw [e2] at e
      by_cases hym : y = m
      · subst hym; rw [e4] at e; exact absurd e.symm (hf.1 x hx)
      · rw [e3 y hym] at e; exact absurd e.symm (hf.2 y hy)
    · rw [e1 x hxc] at e ⊢
      by_cases hym : y = m
      · subst hym; rw [e4] at e
        rcases h.hd x hx with q | ⟨q, q1, q2, q3⟩
        · exact q
        · rcases h.hd c hc with r | ⟨r, r1, r2, r3⟩
          · rw [e]; exact r
          · have := en q r q1 r1 (by rw [← q2, ← r2]; exact e)
            subst this; exact absurd (q3.symm.trans r3) hxc
      · rw [e3 y hym] at e; exact h.hn x y hx hy e
  · rcases h.nx m hm with q | ⟨q, q1, q2, q3⟩
    · exact Or.inl q
    · have hq : q ≠ m := fun e => hf.2 m hm (by rw [q2, e])
      have hm1 : w.nx m ≠ -1 := by rw [q2]; exact nI_m1 (by omega)
      refine Or.inr ⟨q, q1, q2, by rw [h1 q q1 hq]; exact q3, fun x hx e => ?_, fun y hy e => ?_⟩
      · by_cases hxc : x = c
        · subst hxc; rw [e2] at e; exact hq (en m q hm q1 e).symm
        · rw [e1 x hxc] at e
          exact absurd (by rw [q2, ← e]; exact h.hn x m hx hm (e.trans q2.symm)) hm1
      · by_cases hym : y = m
        · subst hym; rw [e4] at e
          exact absurd (by rw [q2, ← e]; exact h.hn c y hc hy (e.trans q2.symm)) hm1
        · rw [e3 y hym] at e
          rcases h.ij y m hy hm (e.trans q2.symm) with r | r
          · exact absurd (by rw [q2, ← e]; exact r) hm1
          · exact hym r
theorem Wok.take {a : Rx} {w : Wx} {M c : Nat} (h : Wok a w M) (hM : M < 2 ^ 31) (hc : c < 802) : Wok a (Wx.of w.nn (upd w.hd c (-1)) w.nx) M ∧ Pend a (Wx.of w.nn (upd w.hd c (-1)) w.nx) M c (w.hd c) := by
  have e1 : ∀ x, x ≠ c → (Wx.of w.nn (upd w.hd c (-1)) w.nx).hd x = w.hd x := fun x hx => pk_un hx
  have e2 : (Wx.of w.nn (upd w.hd c (-1)) w.nx).hd c = -1 := pk_us
  refine ⟨⟨fun x hx => ?_, h.nx, h.ij, fun x y hx hy e => ?_⟩, ?_⟩
  · by_cases hxc : x = c
    · subst hxc; exact Or.inl e2
    · rw [e1 x hxc]; exact h.hd x hx
  · by_cases hxc : x = c
    · subst hxc; exact e2
    · rw [e1 x hxc] at e ⊢; exact h.hn x y hx hy e
  · rcases h.hd c hc with q | ⟨q, q1, q2, q3⟩
    · exact Or.inl q
    · refine Or.inr ⟨q, q1, q2, q3, fun x hx e => ?_, fun y hy e => ?_⟩
      · by_cases hxc : x = c
        · subst hxc; rw [e2] at e; exact nI_m1 (by omega) e.symm
        · rw [e1 x hxc] at e
          rcases h.hd x hx with r | ⟨r, r1, r2, r3⟩
          · rw [r] at e; exact nI_m1 (by omega) e.symm
          · have : r = q := (nI_eq (by omega) (by omega)).mp (r2.symm.trans e)
            subst this; exact hxc (r3.symm.trans q3)
      · have e : w.nx y = nI q := e
        have := h.hn c y hc hy (q2.trans e.symm)
        rw [q2] at this; exact nI_m1 (by omega) this
theorem sw_all {a : Rx} {d : Tx} {m0 i : Nat} (hR : Rok a) (hT : Tok d) (hZ : Sok a d) (hm : m0 < 2 * a.n) (hi1 : a.S (m0 / 2) + 2 ≤ i) (hi2 : i < a.S (m0 / 2 + 1)) (hn : d.tv (nodeAt a m0) = 2) (ho : d.tv (a.C (a.S (m0 / 2) + 1 - m0 % 2)) ≠ 1) :
    Rok (Swap a i (a.S (m0 / 2) + m0 % 2)) ∧ Sok (Swap a i (a.S (m0 / 2) + m0 % 2)) d ∧ (∀ q, q < 2 * a.n → q ≠ m0 → nodeAt (Swap a i (a.S (m0 / 2) + m0 % 2)) q = nodeAt a q) ∧ nodeAt (Swap a i (a.S (m0 / 2) + m0 % 2)) m0 = a.C i := by
  obtain ⟨i1, i2, i3, i4, i5, i6⟩ := hR.inb (r := m0 / 2) (by omega)
  have hC : ∀ j, j ≠ i → j ≠ a.S (m0 / 2) + m0 % 2 → (Swap a i (a.S (m0 / 2) + m0 % 2)).C j = a.C j := fun j h1 h2 => by
    show upN (upN a.C i _) _ _ j = _; rw [upN_n h2, upN_n h1]
  have hrow : ∀ r, r < a.n → r ≠ m0 / 2 → ∀ j, a.S r ≤ j → j < a.S (r + 1) → (Swap a i (a.S (m0 / 2) + m0 % 2)).C j = a.C j := fun r hr hne j j1 j2 => by
    have hj : j < a.S (m0 / 2) ∨ a.S (m0 / 2 + 1) ≤ j := by
      rcases Nat.lt_or_ge r (m0 / 2) with q | q
      · have := hR.le (r := r + 1) (q := m0 / 2) (by omega) (by omega); omega
      · have := hR.le (r := m0 / 2 + 1) (q := r) (by omega) (by omega); omega
    exact hC j (by omega) (by omega)
  refine ⟨⟨hR.n1, hR.la, hR.lc, hR.sf, hR.up, hR.top, fun j hj => ?_⟩, fun p hp => ?_, fun q hq hne => ?_, ?_⟩
  · have hj : j < a.S a.n := hj
    show upd (upd a.cf i _) _ _ j = nI (upN (upN a.C i _) _ _ j) ∧ 2 ≤ upN (upN a.C i _) _ _ j ∧ upN (upN a.C i _) _ _ j < 802
    by_cases h1 : j = a.S (m0 / 2) + m0 % 2
    · rw [h1, pk_us, upN_s]; exact ⟨rfl, (hR.cf i (by omega)).2⟩
    · rw [pk_un h1, upN_n h1]
      by_cases h2 : j = i
      · rw [h2, pk_us, upN_s]; exact ⟨rfl, (hR.cf _ (by omega)).2⟩
      · rw [pk_un h2, upN_n h2]; exact hR.cf j hj
  · rcases hZ p hp with q | ⟨r, r1, r2, r3, r4⟩
    · exact Or.inl q
    · by_cases hr : r = m0 / 2
      · exfalso
        subst hr
        have t1 := (hT.tr p hp).1
        have hn : d.tv (a.C (a.S (m0 / 2) + m0 % 2)) = 2 := hn
        rcases Nat.mod_two_eq_zero_or_one m0 with z | z
        · rw [z] at hn ho
          rcases r3 with r3 | r3
          · rw [show a.S (m0 / 2) + 0 = a.S (m0 / 2) by omega, r3, t1] at hn; exact absurd hn (by decide)
          · rw [show a.S (m0 / 2) + 1 - 0 = a.S (m0 / 2) + 1 by omega, r3, t1] at ho; exact ho rfl
        · rw [z] at hn ho
          rcases r3 with r3 | r3
          · rw [show a.S (m0 / 2) + 1 - 1 = a.S (m0 / 2) by omega, r3, t1] at ho; exact ho rfl
          · rw [r3, t1] at hn; exact absurd hn (by decide)
      · have hu := hR.up r r1
        refine Or.inr ⟨r, r1, r2, ?_, fun j j1 j2 j3 => ?_⟩
        · show (Swap a i _).C (a.S r) = _ ∨ (Swap a i _).C (a.S r + 1) = _
          rw [hrow r r1 hr _ (by omega) (by omega), hrow r r1 hr _ (by omega) (by omega)]; exact r3
        · rw [hrow r r1 hr j j1 j2] at j3 ⊢; exact r4 j j1 j2 j3
  · show (Swap a i _).C (a.S (q / 2) + q % 2) = a.C (a.S (q / 2) + q % 2)
    by_cases hr : q / 2 = m0 / 2
    · rw [hr]; exact hC _ (by omega) (by omega)
    · have hu := hR.up (q / 2) (by omega)
      exact hrow (q / 2) (by omega) hr _ (by omega) (by omega)
  · show upN (upN a.C i _) _ _ (a.S (m0 / 2) + m0 % 2) = a.C i
    rw [upN_s]
/-- the later trail holds the earlier -/
def Tle (d e : Tx) : Prop := (e.fo = d.fo) ∧ (e.lev = d.lev) ∧ (e.low = d.low) ∧ (e.L = d.L) ∧ (e.sv = d.sv) ∧ (d.k ≤ e.k) ∧ (∀ p, p < d.k → e.O p = d.O p ∧ e.V p = d.V p)
theorem Tle.fo {d e : Tx} (h : Tle d e) : e.fo = d.fo := h.1
theorem Tle.lev {d e : Tx} (h : Tle d e) : e.lev = d.lev := h.2.1
theorem Tle.low {d e : Tx} (h : Tle d e) : e.low = d.low := h.2.2.1
theorem Tle.L {d e : Tx} (h : Tle d e) : e.L = d.L := h.2.2.2.1
theorem Tle.sv {d e : Tx} (h : Tle d e) : e.sv = d.sv := h.2.2.2.2.1
theorem Tle.k {d e : Tx} (h : Tle d e) : d.k ≤ e.k := h.2.2.2.2.2.1
theorem Tle.pre {d e : Tx} (h : Tle d e) : ∀ p, p < d.k → e.O p = d.O p ∧ e.V p = d.V p := h.2.2.2.2.2.2
theorem Tle.refl (d : Tx) : Tle d d := ⟨rfl, rfl, rfl, rfl, rfl, Nat.le_refl _, fun _ _ => ⟨rfl, rfl⟩⟩
theorem Tle.trans {d e f : Tx} (h : Tle d e) (g : Tle e f) : Tle d f := ⟨g.fo.trans h.fo, g.lev.trans h.lev, g.low.trans h.low, g.L.trans h.L, g.sv.trans h.sv, Nat.le_trans h.k g.k, fun p hp => by
  have h1 := h.pre p hp; have h2 := g.pre p (Nat.lt_of_lt_of_le hp h.k); exact ⟨h2.1.trans h1.1, h2.2.trans h1.2⟩⟩
theorem Tle.put (d : Tx) (c : Nat) (be : Int32) : Tle d (Tput d c be) := ⟨rfl, rfl, rfl, rfl, rfl, Nat.le_succ _, fun p hp => ⟨upN_n (by omega), upN_n (by omega)⟩⟩
theorem Tle.no {d e : Tx} (h : Tle d e) (hd : Tok d) (he : Tok e) {c : Nat} (h1 : 2 ≤ c) (h2 : c < 802) (h3 : d.tv c = 2) : e.tv c = 2 := by
  obtain ⟨p, hp, e1⟩ := hd.no h1 h2 h3
  have h4 := (he.tr p (Nat.lt_of_lt_of_le hp h.k)).2
  rwa [(h.pre p hp).1, e1, fl_fl] at h4
/-- the rows have kept their places -/
def Rsm (a b : Rx) : Prop := (b.n = a.n) ∧ (b.S = a.S) ∧ (b.la = a.la) ∧ (b.lc = a.lc) ∧ (b.sf = a.sf) ∧ (b.kf = a.kf)
theorem Rsm.n {a b : Rx} (h : Rsm a b) : b.n = a.n := h.1
theorem Rsm.S {a b : Rx} (h : Rsm a b) : b.S = a.S := h.2.1
theorem Rsm.la {a b : Rx} (h : Rsm a b) : b.la = a.la := h.2.2.1
theorem Rsm.lc {a b : Rx} (h : Rsm a b) : b.lc = a.lc := h.2.2.2.1
theorem Rsm.sf {a b : Rx} (h : Rsm a b) : b.sf = a.sf := h.2.2.2.2.1
theorem Rsm.kf {a b : Rx} (h : Rsm a b) : b.kf = a.kf := h.2.2.2.2.2
theorem Rsm.refl (a : Rx) : Rsm a a := ⟨rfl, rfl, rfl, rfl, rfl, rfl⟩
theorem Rsm.trans {a b c : Rx} (h : Rsm a b) (g : Rsm b c) : Rsm a c := ⟨g.n.trans h.n, g.S.trans h.S, g.la.trans h.la, g.lc.trans h.lc, g.sf.trans h.sf, g.kf.trans h.kf⟩
/-- x is no row, or a row all of whose codes are false, c among them -/
def Badr (a : Rx) (d : Tx) (c : Nat) (x : Int32) : Prop := x = -1 ∨ ∃ r, r < a.n ∧ x = nI r ∧ (∀ j, a.S r ≤ j → j < a.S (r + 1) → d.tv (a.C j) = 2) ∧ ∃ j, a.S r ≤ j ∧ j < a.S (r + 1) ∧ a.C j = c
/-- rows, trail and watch stand together -/
def Gok (a : Rx) (d : Tx) (w : Wx) : Prop := (Rok a) ∧ (Tok d) ∧ (Lok d) ∧ (Sok a d) ∧ (Wok a w (2 * a.n)) ∧ (2 * a.n ≤ w.nn ∧ w.nn ≤ 1048576)
theorem Gok.R {a : Rx} {d : Tx} {w : Wx} (h : Gok a d w) : Rok a := h.1
theorem Gok.T {a : Rx} {d : Tx} {w : Wx} (h : Gok a d w) : Tok d := h.2.1
theorem Gok.L {a : Rx} {d : Tx} {w : Wx} (h : Gok a d w) : Lok d := h.2.2.1
theorem Gok.Z {a : Rx} {d : Tx} {w : Wx} (h : Gok a d w) : Sok a d := h.2.2.2.1
theorem Gok.W {a : Rx} {d : Tx} {w : Wx} (h : Gok a d w) : Wok a w (2 * a.n) := h.2.2.2.2.1
theorem Gok.nn {a : Rx} {d : Tx} {w : Wx} (h : Gok a d w) : 2 * a.n ≤ w.nn ∧ w.nn ≤ 1048576 := h.2.2.2.2.2
/-- what a visit keeps -/
def Vok (a0 a : Rx) (d0 d : Tx) (w0 w : Wx) (c : Nat) : Prop := (Gok a d w) ∧ (Rsm a0 a) ∧ (Tle d0 d) ∧ (w.nn = w0.nn) ∧ (d.tv c = 2)
theorem Vok.G {a0 a : Rx} {d0 d : Tx} {w0 w : Wx} {c : Nat} (h : Vok a0 a d0 d w0 w c) : Gok a d w := h.1
theorem Vok.rs {a0 a : Rx} {d0 d : Tx} {w0 w : Wx} {c : Nat} (h : Vok a0 a d0 d w0 w c) : Rsm a0 a := h.2.1
theorem Vok.tl {a0 a : Rx} {d0 d : Tx} {w0 w : Wx} {c : Nat} (h : Vok a0 a d0 d w0 w c) : Tle d0 d := h.2.2.1
theorem Vok.nn {a0 a : Rx} {d0 d : Tx} {w0 w : Wx} {c : Nat} (h : Vok a0 a d0 d w0 w c) : w.nn = w0.nn := h.2.2.2.1
theorem Vok.no {a0 a : Rx} {d0 d : Tx} {w0 w : Wx} {c : Nat} (h : Vok a0 a d0 d w0 w c) : d.tv c = 2 := h.2.2.2.2
theorem v_hang {a0 a : Rx} {d0 d : Tx} {w0 w : Wx} {m0 : Nat} (h : Vok a0 a d0 d w0 w (nodeAt a m0)) (hm : m0 < 2 * a.n) (hf : Wfree w (2 * a.n) m0) (hc : nodeAt a m0 < 802) : Vok a0 a d0 d w0 (Hang w m0 (nodeAt a m0)) (nodeAt a m0) ∧ Pend a (Hang w m0 (nodeAt a m0)) (2 * a.n) (nodeAt a m0) (w.nx m0) := by
  have hM : 2 * a.n < 2 ^ 31 := by have := h.G.R.n1; have := h.G.R.la; omega
  have h1 := h.G.W.hang (a' := a) hM hm hf hc (fun _ _ _ => rfl) rfl
  exact ⟨⟨⟨h.G.R, h.G.T, h.G.L, h.G.Z, h1.1, h.G.nn⟩, h.rs, h.tl, h.nn, h.no⟩, h1.2⟩
theorem v_swap {a0 a b : Rx} {d0 d : Tx} {w0 w v : Wx} {m0 i : Nat} (h : Vok a0 a d0 d w0 w (nodeAt a m0)) (hm : m0 < 2 * a.n) (hf : Wfree w (2 * a.n) m0) (hi1 : a.S (m0 / 2) + 2 ≤ i) (hi2 : i < a.S (m0 / 2 + 1)) (ho : d.tv (a.C (a.S (m0 / 2) + 1 - m0 % 2)) ≠ 1) (eb : b = Swap a i (a.S (m0 / 2) + m0 % 2)) (ev : v = Hang w m0 (a.C i)) : Vok a0 b d0 d w0 v (nodeAt a m0) ∧ Pend b v (2 * a.n) (nodeAt a m0) (w.nx m0) := by
  subst eb; subst ev
  have hM : 2 * a.n < 2 ^ 31 := by have := h.G.R.n1; have := h.G.R.la; omega
  obtain ⟨i1, i2, i3, i4, i5, i6⟩ := h.G.R.inb (r := m0 / 2) (by omega)
  obtain ⟨s1, s2, s3, s4⟩ := sw_all h.G.R h.G.T h.G.Z hm hi1 hi2 h.no ho
  have h1 := h.G.W.hang (a' := Swap a i (a.S (m0 / 2) + m0 % 2)) hM hm hf (h.G.R.cf i (by omega)).2.2 s3 s4
  exact ⟨⟨⟨s1, h.G.T, h.G.L, s2, h1.1, h.G.nn⟩, h.rs.trans ⟨rfl, rfl, rfl, rfl, rfl, rfl⟩, h.tl, h.nn, h.no⟩, h1.2⟩
theorem two_in {a : Rx} {m0 j : Nat} (h1 : a.S (m0 / 2) ≤ j) (h2 : j < a.S (m0 / 2) + 2) : j = a.S (m0 / 2) + m0 % 2 ∨ j = a.S (m0 / 2) + 1 - m0 % 2 := by omega
theorem f_bad {a : Rx} {d : Tx} {m0 : Nat} (hR : Rok a) (hm : m0 < 2 * a.n) (hn : d.tv (nodeAt a m0) = 2) (ho : d.tv (a.C (a.S (m0 / 2) + 1 - m0 % 2)) = 2) (hq : d.tv (a.C (a.S (m0 / 2) + 1 - m0 % 2)) = 1 ∨ ∀ j, a.S (m0 / 2) + 2 ≤ j → j < a.S (m0 / 2 + 1) → d.tv (a.C j) = 2) : Badr a d (nodeAt a m0) (nI (m0 / 2)) := by
  have hu := hR.up (m0 / 2) (by omega)
  refine Or.inr ⟨m0 / 2, by omega, rfl, fun j j1 j2 => ?_, a.S (m0 / 2) + m0 % 2, by omega, by omega, rfl⟩
  rcases Nat.lt_or_ge j (a.S (m0 / 2) + 2) with q | q
  · rcases two_in j1 q with e | e
    · rw [e]; exact hn
    · rw [e]; exact ho
  · rcases hq with hq | hq
    · rw [ho] at hq; exact absurd hq (by decide)
    · exact hq j q j2
theorem f_put {a : Rx} {d : Tx} {w : Wx} {m0 c : Nat} (h : Gok a d w) (hm : m0 < 2 * a.n) (hn : d.tv (nodeAt a m0) = 2) (ec : c = a.C (a.S (m0 / 2) + 1 - m0 % 2)) (ho : d.tv c = 0) (hq : d.tv (a.C (a.S (m0 / 2) + 1 - m0 % 2)) = 1 ∨ ∀ j, a.S (m0 / 2) + 2 ≤ j → j < a.S (m0 / 2 + 1) → d.tv (a.C j) = 2) : Gok a (Tput d c (nI (m0 / 2))) w := by
  obtain ⟨i1, i2, i3, i4, i5, i6⟩ := h.R.inb (r := m0 / 2) (by omega)
  have hcb := (h.R.cf (a.S (m0 / 2) + 1 - m0 % 2) (by omega)).2
  rw [← ec] at hcb
  refine ⟨h.R, h.T.put _ hcb.1 hcb.2 ho, h.L.put h.T _ ho, h.Z.put h.T ho (Or.inr ⟨m0 / 2, by omega, rfl, ?_, fun j j1 j2 j3 => ?_⟩), h.W, h.nn⟩
  · rcases Nat.mod_two_eq_zero_or_one m0 with z | z
    · right; rw [ec, z]; rfl
    · left; rw [ec, z]; rfl
  · refine h.T.no (h.R.cf j (by omega)).2.1 (h.R.cf j (by omega)).2.2 ?_
    rcases Nat.lt_or_ge j (a.S (m0 / 2) + 2) with q | q
    · rcases two_in j1 q with e | e
      · rw [e]; exact hn
      · rw [e, ← ec] at j3; exact absurd rfl j3
    · rcases hq with hq | hq
      · rw [← ec, ho] at hq; exact absurd hq (by decide)
      · exact hq j q j2
theorem v_hang' {a0 a : Rx} {d0 d : Tx} {w0 w : Wx} {m0 c : Nat} (e : nodeAt a m0 = c) (h : Vok a0 a d0 d w0 w c) (hm : m0 < 2 * a.n) (hf : Wfree w (2 * a.n) m0) (hc : c < 802) : Vok a0 a d0 d w0 (Hang w m0 c) c ∧ Pend a (Hang w m0 c) (2 * a.n) c (w.nx m0) := by subst e; exact v_hang h hm hf hc
theorem v_swap' {a0 a b : Rx} {d0 d : Tx} {w0 w v : Wx} {m0 i c : Nat} (e : nodeAt a m0 = c) (h : Vok a0 a d0 d w0 w c) (hm : m0 < 2 * a.n) (hf : Wfree w (2 * a.n) m0) (hi1 : a.S (m0 / 2) + 2 ≤ i) (hi2 : i < a.S (m0 / 2 + 1)) (ho : d.tv (a.C (a.S (m0 / 2) + 1 - m0 % 2)) ≠ 1) (eb : b = Swap a i (a.S (m0 / 2) + m0 % 2)) (ev : v = Hang w m0 (a.C i)) : Vok a0 b d0 d w0 v c ∧ Pend b v (2 * b.n) c (w.nx m0) := by
  subst e
  have h1 := v_swap h hm hf hi1 hi2 ho eb ev
  have h2 : b.n = a.n := by rw [eb]; rfl
  rw [h2]; exact h1
theorem v_take {a : Rx} {d : Tx} {w : Wx} {c : Nat} (h : Gok a d w) (hc : c < 802) (hn : d.tv c = 2) : Vok a a d d w (Wx.of w.nn (upd w.hd c (-1)) w.nx) c ∧ Pend a (Wx.of w.nn (upd w.hd c (-1)) w.nx) (2 * a.n) c (w.hd c) := by
  have hM : 2 * a.n < 2 ^ 31 := by have := h.R.n1; have := h.R.la; omega
  have h1 := h.W.take hM hc
  exact ⟨⟨⟨h.R, h.T, h.L, h.Z, h1.1, h.nn⟩, Rsm.refl a, Tle.refl d, rfl, hn⟩, h1.2⟩
/-- the later trail holds the earlier, more of it followed -/
def Fle (d e : Tx) : Prop := (e.lev = d.lev) ∧ (e.low = d.low) ∧ (e.L = d.L) ∧ (e.sv = d.sv) ∧ (d.k ≤ e.k) ∧ (∀ p, p < d.k → e.O p = d.O p ∧ e.V p = d.V p)
theorem Fle.lev {d e : Tx} (h : Fle d e) : e.lev = d.lev := h.1
theorem Fle.low {d e : Tx} (h : Fle d e) : e.low = d.low := h.2.1
theorem Fle.L {d e : Tx} (h : Fle d e) : e.L = d.L := h.2.2.1
theorem Fle.sv {d e : Tx} (h : Fle d e) : e.sv = d.sv := h.2.2.2.1
theorem Fle.k {d e : Tx} (h : Fle d e) : d.k ≤ e.k := h.2.2.2.2.1
theorem Fle.pre {d e : Tx} (h : Fle d e) : ∀ p, p < d.k → e.O p = d.O p ∧ e.V p = d.V p := h.2.2.2.2.2
theorem Fle.refl (d : Tx) : Fle d d := ⟨rfl, rfl, rfl, rfl, Nat.le_refl _, fun _ _ => ⟨rfl, rfl⟩⟩
theorem Fle.of {d e f : Tx} (h : Fle d e) (g : Tle e f) : Fle d f := ⟨g.lev.trans h.lev, g.low.trans h.low, g.L.trans h.L, g.sv.trans h.sv, Nat.le_trans h.k g.k, fun p hp => by
  have h1 := h.pre p hp; have h2 := g.pre p (Nat.lt_of_lt_of_le hp h.k); exact ⟨h2.1.trans h1.1, h2.2.trans h1.2⟩⟩
/-- one truth more is followed -/
def Tfo (d : Tx) : Tx := Tx.of d.k (d.fo + 1) d.lev d.low d.tv d.ov d.lv d.rv d.sv d.O d.L d.V
theorem Fle.fo {d e : Tx} (h : Fle d e) : Fle d (Tfo e) := h
theorem Gok.fo {a : Rx} {d : Tx} {w : Wx} (h : Gok a d w) (hf : d.fo < d.k) : Gok a (Tfo d) w :=
  ⟨h.R, h.T, ⟨h.L.lw, h.L.sv, h.L.up, h.L.tp, h.L.lv, h.L.vs, ⟨hf, fun q => Nat.le_succ_of_le (h.L.fo.2 q)⟩⟩, h.Z, h.W, h.nn⟩
/-- row r is false, and one of its codes of the last level -/
def Bad (a : Rx) (d : Tx) (r : Nat) : Prop := r < a.n ∧ (∀ j, a.S r ≤ j → j < a.S (r + 1) → d.tv (a.C j) = 2) ∧ ∃ j p, a.S r ≤ j ∧ j < a.S (r + 1) ∧ p < d.k ∧ d.O p = fl (a.C j) ∧ (1 ≤ d.lev → d.L d.lev ≤ p)
theorem bad_of {a : Rx} {d0 d : Tx} {w : Wx} {x : Int32} (h : Gok a d w) (hl : Tle d0 d) (hk : d0.fo < d0.k) (hb : Badr a d (fl (d0.O d0.fo)) x) (hx : x ≠ -1) : ∃ r, x = nI r ∧ Bad a d r := by
  rcases hb with q | ⟨r, r1, r2, r3, j, j1, j2, j3⟩
  · exact absurd q hx
  · refine ⟨r, r2, r1, r3, j, d0.fo, j1, j2, Nat.lt_of_lt_of_le hk hl.k, ?_, fun q => ?_⟩
    · rw [(hl.pre _ hk).1, j3, fl_fl]
    · have := h.L.fo.2 q; rwa [hl.fo] at this
