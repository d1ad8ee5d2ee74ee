def R_law : String := "ClauseSearchLaw"
def lw_P (b : Addr) (xs : List Int32) (args : Array Value) (s : State) : Prop := args = #[.ref b] ∧ s.IntsAt b xs ∧ xs.length ≤ 1024 ∧ (Jvm.Cond.and given_1 narrow_1).before args s = true
def lw_Q (_ : Array Value) (s : State) (o : Outcome) (t : State) : Prop := o = .returned (some (.int 1)) ∧ Framed s o t [] 601024 7293034
def lw_Z (below : List Frame) (a : Array Value) (s : State) : State → Prop := fun t => ∃ o, t.status = .running ∧ Ended t below o ∧ lw_Q a s o t
/-- the law's own end, with 1 on the stack, nothing written that was there before, its room as the claim has it -/
theorem lw_ret {p : Program} {l : Launch} {e : Env} {s : State} {m : MethodId} {below : List Frame} {meth : Method} {c : Code} {b : Nat} (hx : p.tables.exec = Jvm.exec) (hb : c.code = code) (hr : meth.sig.returnType = ret) (hlocks : meth.locks = false) {pc : Nat} {H : Heap} {ls : Array Slot} (hdg : decode code pc = .ok (.ireturn, 1)) : W p l e room_1 s m #[Value.ref b] below meth c H [] 601024 7293034 (lw_Z below #[Value.ref b] s) (F0 m pc ls [.int 1]) := by
  intro T hT X
  obtain ⟨fs, hret, hrun, hended, hW, hframe⟩ := X.leave (v := some (.int 1)) (hlocks := hlocks) (fun h => by rw [hr] at h; cases h)
  have hmeth' : T.vm.method? m = some meth := X.method'
  refine ⟨T.setFrames fs, ?_, .returned (some (.int 1)), hrun, hended, rfl, ⟨_, rfl⟩, hW, hframe⟩
  jvm_step X.here [X.here.top, hx, hb, hdg, hmeth', hr, ret, narrow_b1]
  (try refine ⟨rfl, ?_⟩); (try refine ⟨rfl, ?_⟩)
  first | (intro acts; rw [hret _ acts rfl rfl rfl]) | rw [hret _ _ rfl rfl rfl]
  exact Steps.refl _
/-- what holds at the law's entry: the machine, the code, the tables' words (any of lw_tbl by 'hts w (by decide +kernel)'), the script of L ints xs at the cell b, what the Statement gives of the start (any of its parts by flat_of_before) -/
def lw_At (p : Program) (s : State) (m : MethodId) (meth : Method) (c : Code) (b L : Nat) (xs : Nat → Int32) : Prop :=
  p.tables.exec = Jvm.exec ∧ c.code = code ∧ meth.sig.returnType = ret ∧ c.maxLocals = 7 ∧ s.vm.findClass R_law = some m.cls ∧ (∀ w ∈ lw_tbl, w.before #[Value.ref b] s = true) ∧ va_X b L xs s s.heap ∧ b < s.heap.size ∧ meth.locks = false ∧ (Jvm.Cond.and given_1 narrow_1).before #[Value.ref b] s = true
theorem v_cases (x : Int32) : (x < 1 ∨ 400 < x) ∨ ∃ n, x = nI n ∧ 1 ≤ n ∧ n ≤ 400 := by
  by_cases h : x < 1 ∨ 400 < x
  · exact Or.inl h
  · refine Or.inr ⟨x.toInt.toNat, ?_, ?_, ?_⟩
    all_goals
      have h1 : ¬ x < 1 := fun q => h (Or.inl q)
      have h2 : ¬ 400 < x := fun q => h (Or.inr q)
      rw [Int32.lt_iff_toInt_lt] at h1 h2
      have e1 : (1 : Int32).toInt = 1 := rfl
      have e4 : (400 : Int32).toInt = 400 := rfl
    · apply Int32.toInt_inj.mp; rw [nI_toInt (by omega)]; omega
    · omega
    · omega
theorem i_neg {v : Nat} (h : v ≤ 400) : (-nI v).toInt = -(v : Int) ∧ (ng v).toInt = -(v : Int) := by
  have h1 : (nI v).toInt = v := nI_toInt (by omega)
  have h2 : (-nI v).toInt = -(v : Int) := by
    rw [Int32.toInt_neg, h1]; exact Int.bmod_eq_of_le (by omega) (by omega)
  refine ⟨h2, ?_⟩
  have : ng v = -nI v := by show 0 - nI v = _; rw [Int32.zero_sub]
  rw [this]; exact h2
theorem g_cases (x : Int32) {vc : Nat} (hv : vc ≤ 400) : (x = 0 ∨ nI vc < x ∨ x < -nI vc) ∨ ∃ v, 1 ≤ v ∧ v ≤ vc ∧ (x = nI v ∨ x = ng v) ∧ ¬ x = 0 ∧ ¬ nI vc < x ∧ ¬ x < -nI vc := by
  by_cases h : x = 0 ∨ nI vc < x ∨ x < -nI vc
  · exact Or.inl h
  · have h1 : ¬ x = 0 := fun q => h (Or.inl q)
    have h2 : ¬ nI vc < x := fun q => h (Or.inr (Or.inl q))
    have h3 : ¬ x < -nI vc := fun q => h (Or.inr (Or.inr q))
    have h4 := h2; have h5 := h3
    rw [Int32.lt_iff_toInt_lt, nI_toInt (by omega)] at h4
    rw [Int32.lt_iff_toInt_lt, (i_neg hv).1] at h5
    have h6 : x.toInt ≠ 0 := fun q => h1 (Int32.toInt_inj.mp (q.trans rfl))
    refine Or.inr ⟨x.toInt.natAbs, by omega, by omega, ?_, h1, h2, h3⟩
    rcases Int.lt_or_le x.toInt 0 with q | q
    · right; apply Int32.toInt_inj.mp; rw [(i_neg (by omega)).2]; omega
    · left; apply Int32.toInt_inj.mp; rw [nI_toInt (by omega)]; omega
theorem w_cases (x : Int32) {vc : Nat} (hv : vc ≤ 400) : (x < 1 ∨ nI vc < x) ∨ ∃ n, x = nI n ∧ 1 ≤ n ∧ n ≤ vc := by
  by_cases h : x < 1 ∨ nI vc < x
  · exact Or.inl h
  · refine Or.inr ⟨x.toInt.toNat, ?_, ?_, ?_⟩
    all_goals
      have h1 : ¬ x < 1 := fun q => h (Or.inl q)
      have h2 : ¬ nI vc < x := fun q => h (Or.inr q)
      rw [Int32.lt_iff_toInt_lt] at h1 h2
      have e1 : (1 : Int32).toInt = 1 := rfl
      rw [nI_toInt (show vc < 2 ^ 31 by omega)] at h2
    · apply Int32.toInt_inj.mp; rw [nI_toInt (by omega)]; omega
    · omega
    · omega
theorem li_p (v : Nat) : li (2 * v) = nI v := by unfold li; rw [if_pos (by omega), show 2 * v / 2 = v by omega]
theorem li_n (v : Nat) : li (2 * v + 1) = ng v := by unfold li; rw [if_neg (by omega), show (2 * v + 1) / 2 = v by omega]
theorem not_lt_1 {n : Nat} (h1 : 1 ≤ n) (h2 : n ≤ 400) : ¬ nI n < 1 := fun q => by
  have : nI n < nI 1 := q
  have := (nI_ltI (by omega) (by omega)).mp this; omega
theorem le_of_n {n k : Nat} (h : n ≤ k) (h2 : k ≤ 400) : nI n ≤ nI k := (nI_leI (by omega) (by omega)).mpr h
theorem big_sum {a b : Nat} (h : 400 < a + b) (h1 : a ≤ 400) (h2 : b ≤ 400) : ¬ nI a + nI b ≤ 400 := fun q => by
  rw [nI_add] at q
  have : nI (a + b) ≤ nI 400 := q
  have := (nI_leI (by omega) (by omega)).mp this; omega
theorem Pok.add {o : Dx} {Bf Pf Gg : Nat → Nat} {lt2 : Nat → Int32} (h : Pok o Bf Pf) (hcl : o.cl < 4000) (hg : o.gv ≤ 20) (hrw : ∀ j, j < o.gv → o.rw j = li (Gg j) ∧ 2 ≤ Gg j ∧ Gg j < 802) (h1 : ∀ j, j < Bf o.cl → lt2 j = o.lt j) (h2 : ∀ j, j < o.gv → lt2 (Bf o.cl + j) = o.rw j) :
    Pok (Dx.of lt2 (upd o.fs (o.cl + 1) (nI (Bf o.cl + o.gv))) o.rw o.am o.wv o.tl o.ch o.mk o.vc (o.cl + 1) 0 o.na o.ln 0 0 o.X) (upN Bf (o.cl + 1) (Bf o.cl + o.gv)) (fun j => if j < Bf o.cl then Pf j else Gg (j - Bf o.cl)) := by
  have e1 : ∀ r, r ≤ o.cl → upN Bf (o.cl + 1) (Bf o.cl + o.gv) r = Bf r := fun r hr => upN_n (by omega)
  have e2 : upN Bf (o.cl + 1) (Bf o.cl + o.gv) (o.cl + 1) = Bf o.cl + o.gv := upN_s
  have ht := h.tp o.cl (Nat.le_refl _)
  refine ⟨hcl, by rw [e1 0 (Nat.zero_le _)]; exact h.b0, fun r hr => ?_, fun r hr => ?_, fun r hr => ?_, fun j hj => ?_⟩
  · have hr : r ≤ o.cl + 1 := hr
    show upd o.fs (o.cl + 1) _ r = _
    by_cases hq : r = o.cl + 1
    · rw [hq, pk_us, e2]
    · rw [pk_un hq, e1 r (by omega)]; exact h.fs r (by omega)
  · have hr : r < o.cl + 1 := hr
    by_cases hq : r = o.cl
    · rw [hq, e2, e1 o.cl (Nat.le_refl _)]; omega
    · rw [e1 r (by omega), e1 (r + 1) (by omega)]; exact h.up r (by omega)
  · have hr : r ≤ o.cl + 1 := hr
    by_cases hq : r = o.cl + 1
    · rw [hq, e2]; omega
    · rw [e1 r (by omega)]; exact h.tp r (by omega)
  · have hj : j < upN Bf (o.cl + 1) (Bf o.cl + o.gv) (o.cl + 1) := hj
    rw [e2] at hj
    show lt2 j = li (if j < Bf o.cl then Pf j else Gg (j - Bf o.cl)) ∧ 2 ≤ (if j < Bf o.cl then Pf j else Gg (j - Bf o.cl)) ∧ (if j < Bf o.cl then Pf j else Gg (j - Bf o.cl)) < 802
    by_cases hq : j < Bf o.cl
    · rw [if_pos hq, h1 j hq]; exact h.lt j hq
    · have h3 := h2 (j - Bf o.cl) (by omega)
      rw [show Bf o.cl + (j - Bf o.cl) = j by omega] at h3
      rw [if_neg hq, h3]; exact hrw _ (by omega)
theorem gc_le {q : Mx} {b a : Rx} {d e9 : Tx} {w : Wx} {z : Lx} {x : Sx} {gc : Nat} (hQ : Cx q b) (hX : Gx a d e9 w z x gc) : GC b a w ≤ 9300 ∧ GS b a w ≤ 2300000 := by
  have h1 := hX.fc; have h2 := hQ.la; have h3 := hQ.lc
  unfold GC GS; omega
theorem Pok.same {o o2 : Dx} {Bf Pf : Nat → Nat} (h : Pok o Bf Pf) (h1 : o2.lt = o.lt) (h2 : o2.fs = o.fs) (h3 : o2.cl = o.cl) : Pok o2 Bf Pf := by
  refine ⟨by rw [h3]; exact h.cl, h.b0, ?_, ?_, ?_, ?_⟩
  · rw [h3, h2]; exact h.fs
  · rw [h3]; exact h.up
  · rw [h3]; exact h.tp
  · rw [h3, h1]; exact h.lt
theorem lg_self (x : Int64) : lg_cmp x x = 0 := by simp [lg_cmp]
/-- what a new object holds -/
theorem Cx.new {g3 k3 c3 rw wy : Nat → Int32} {A : Nat → Nat} (h1 : ∀ j, g3 j = 0) (h2 : ∀ j, wy j = 0) : Cx (Mx.of 0 0 0 0 rw wy A) (Rx.of 64 256 0 g3 k3 c3 (fun _ => 0) (fun _ => 0)) :=
  ⟨⟨by show 0 < 64; decide, by show 64 ≤ 1048576; decide, by show 256 ≤ 4194304; decide, fun r _ => h1 r, fun r hr => absurd hr (Nat.not_lt_zero _), by show 0 ≤ 256; decide, fun j hj => absurd hj (Nat.not_lt_zero _)⟩, by show 0 ≤ 512; decide, by show 0 ≤ 20 * 0; decide, by show 64 ≤ 64 ∧ 64 ≤ 2048; decide, by show 256 ≤ 256 ∧ 256 ≤ 65536; decide, by show 0 ≤ 20; decide, fun j hj => absurd hj (Nat.not_lt_zero _), by show 0 ≤ 400; decide, Or.inl rfl, fun j _ => Or.inl (h2 j)⟩
def Tnew (tv ov lv rv sv : Nat → Int32) : Tx := Tx.of 0 0 0 1 tv ov lv rv sv (fun _ => 0) (fun _ => 0) (fun _ => 0)
theorem Tnew.tok {tv ov lv rv sv : Nat → Int32} (h : ∀ j, tv j = 0) : Tok (Tnew tv ov lv rv sv) :=
  ⟨fun p hp => absurd hp (Nat.not_lt_zero _), fun p hp => absurd hp (Nat.not_lt_zero _), fun p q hp => absurd hp (Nat.not_lt_zero _), fun c _ _ h3 => absurd (h c) h3⟩
theorem Gx.new {sf kf cf tv ov lv rv sv tv2 ov2 lv2 rv2 sv2 hd nx sn cd us pv fv fi : Nat → Int32} (h0 : ∀ j, sf j = 0) (h1 : ∀ j, tv j = 0) (h2 : ∀ j, tv2 j = 0) (h3 : ∀ j, j < 802 → hd j = -1) (h4 : ∀ j, sn j = 0) :
    Gx (Rx.of 64 256 0 sf kf cf (fun _ => 0) (fun _ => 0)) (Tnew tv ov lv rv sv) (Tnew tv2 ov2 lv2 rv2 sv2) (Wx.of 128 hd nx) (Lx.of sn cd us 0 0 0 (fun _ => 0) (fun _ => 0)) (Sx.of pv fv fi 0 0 0 0 (fun _ => 0)) 0 := by
  refine ⟨⟨⟨by show 0 < 64; decide, by show 64 ≤ 1048576; decide, by show 256 ≤ 4194304; decide, fun r _ => h0 r, fun r hr => absurd hr (Nat.not_lt_zero _), by show 0 ≤ 256; decide, fun j hj => absurd hj (Nat.not_lt_zero _)⟩, Tnew.tok h1, ⟨by show 1 ≤ 1 ∧ 1 ≤ 401; decide, fun j j1 j2 => ?_, fun j j1 j2 => absurd j2 (Nat.not_lt_zero _), fun q => ?_, fun p hp => absurd hp (Nat.not_lt_zero _), fun p j hp => absurd hp (Nat.not_lt_zero _), ⟨Nat.le_refl _, fun q => ?_⟩⟩, fun p hp => absurd hp (Nat.not_lt_zero _), Wok.none (w := Wx.of 128 hd nx) h3, by show 2 * 0 ≤ 128 ∧ 128 ≤ 1048576; decide⟩, ⟨fun j hj => absurd hj (Nat.not_lt_zero _), fun i j hi => absurd hi (Nat.not_lt_zero _)⟩, ⟨Tnew.tok h2, by show 1 ≤ 1 ∧ 1 ≤ 401; decide, by show 0 ≤ 401; decide⟩, fun v _ _ => h4 v, ⟨rfl, fun r hr => absurd hr (Nat.not_lt_zero _), fun r hr => absurd hr (Nat.not_lt_zero _), rfl, rfl⟩, by show 0 ≤ 1000 ∧ 0 ≤ 512; decide, by show 64 ≤ 64 ∧ 64 ≤ 4096; decide, by show 256 ≤ 256 ∧ 256 ≤ 1048576; decide, by show 128 ≤ 128 ∧ 128 ≤ 8192; decide⟩
  · have j2 : j ≤ 0 := j2; omega
  · have q : 1 ≤ 0 := q; omega
  · have q : 1 ≤ 0 := q; omega
theorem Pok.new {lt fs rw am wv tl ch mk : Nat → Int32} {X : Nat → Nat} (h : ∀ j, fs j = 0) : Pok (Dx.of lt fs rw am wv tl ch mk 0 0 0 0 0 0 0 X) (fun _ => 0) (fun _ => 0) :=
  ⟨by show 0 ≤ 4000; decide, rfl, fun r _ => h r, fun r hr => absurd hr (Nat.not_lt_zero _), fun r _ => Nat.zero_le _, fun j hj => absurd hj (Nat.not_lt_zero _)⟩
theorem nw4 {H H0 S Fa Fb N B : Nat} (h1 : H + Fa ≤ H0 + Fb) (h0 : H0 ≤ S + (N + (B + Fa))) : H ≤ S + (N + (B + Fb)) := by omega
/-- the cells of the law -/
def lwV (b0 r0 m1 h1 p0 o0 f0 f1 h0 t0 u0 u1 u2 u3 u4 w0 v0 s0 s1 s2 s3 k0 t9 u5 u6 u7 u8 u9 e0 e1 e2 e3 e4 e5 e6 e7 e8 o9 : Nat) (x8 x9 y3 y4 y5 x5 x6 x7 y0 y1 y2 z0 z1 z2 z3 z4 x0 x1 x2 x3 x4 z5 z6 z7 z8 z9 c1 c2 c3 c4 c5 c6 c7 c8 cl : ClassId) (g0 : Nat) (g1 : Nat) (g2 : Nat) (v1 : Nat) (g3 : Nat) (g4 : Nat) (g5 : Nat) (q : Mx) (b : Rx) (pv : Nat → Int32) (x : Sx) (a : Rx) (d : Tx) (e9 : Tx) (w : Wx) (z : Lx) (o : Dx) (fo : Nat → Int64) : va_W := [(b0, .inr (6, [.ref r0, .ref h1, .ref o0, .ref m1, .int (nI q.rs), .int (nI q.vc), .int q.ws, .int q.bw])), (r0, .inl (x8, 20, .inl q.rw)), (m1, .inl (x9, 401, .inl q.wy)), (h1, .inr (2, [.ref g3, .ref g4, .ref g5, .int (nI b.n)])), (g3, .inl (y3, b.la, .inl b.sf)), (g4, .inl (y4, b.la, .inl b.kf)), (g5, .inl (y5, b.lc, .inl b.cf)), (p0, .inl (x5, 20, .inl pv)), (o0, .inr (3, [.ref h0, .ref t0, .ref w0, .ref s0, .ref k0, .ref p0, .ref f0, .ref f1, .int (nI x.fc), .int (nI x.lc), .int x.bl, .int x.hp])), (f0, .inl (x6, 802, .inl x.fv)), (f1, .inl (x7, 802, .inl x.fi)), (h0, .inr (2, [.ref g0, .ref g1, .ref g2, .int (nI a.n)])), (g0, .inl (y0, a.la, .inl a.sf)), (g1, .inl (y1, a.la, .inl a.kf)), (g2, .inl (y2, a.lc, .inl a.cf)), (t0, .inr (4, [.ref u0, .ref u1, .ref u2, .ref u3, .ref u4, .int (nI d.k), .int (nI d.fo), .int (nI d.lev), .int (nI d.low)])), (u0, .inl (z0, 802, .inl d.tv)), (u1, .inl (z1, 401, .inl d.ov)), (u2, .inl (z2, 401, .inl d.lv)), (u3, .inl (z3, 401, .inl d.rv)), (u4, .inl (z4, 402, .inl d.sv)), (w0, .inr (5, [.ref h0, .ref t0, .ref v0, .ref v1])), (v0, .inl (x0, 802, .inl w.hd)), (v1, .inl (x1, w.nn, .inl w.nx)), (s0, .inr (1, [.ref h0, .ref t0, .ref s1, .ref s2, .ref s3, .int (nI z.sz), .int (nI z.uz), .int (nI z.op)])), (s1, .inl (x2, 401, .inl z.sn)), (s2, .inl (x3, 401, .inl z.cd)), (s3, .inl (x4, 401, .inl z.us)), (k0, .inr (0, [.ref h0, .ref t9])), (t9, .inr (4, [.ref u5, .ref u6, .ref u7, .ref u8, .ref u9, .int (nI e9.k), .int (nI e9.fo), .int (nI e9.lev), .int (nI e9.low)])), (u5, .inl (z5, 802, .inl e9.tv)), (u6, .inl (z6, 401, .inl e9.ov)), (u7, .inl (z7, 401, .inl e9.lv)), (u8, .inl (z8, 401, .inl e9.rv)), (u9, .inl (z9, 402, .inl e9.sv)), (e0, .inr (7, [.ref e1, .ref e2, .ref e3, .ref e4, .ref e5, .int (nI o.vc), .int (nI o.cl), .int (nI o.gv), .int (nI o.na), .int o.sd, .int o.cd, .ref e6, .int (nI o.ln), .ref e7, .ref e8])), (e1, .inl (c1, 80000, .inl o.lt)), (e2, .inl (c2, 4001, .inl o.fs)), (e3, .inl (c3, 20, .inl o.rw)), (e4, .inl (c4, 20, .inl o.am)), (e5, .inl (c5, 401, .inl o.wv)), (e6, .inl (c6, 401, .inl o.tl)), (e7, .inl (c7, 401, .inl o.ch)), (e8, .inl (c8, 401, .inl o.mk)), (o9, .inl (cl, 1, .inr (.inl fo)))]
/-- the classes of its arrays -/
def lwT (x8 x9 y3 y4 y5 x5 x6 x7 y0 y1 y2 z0 z1 z2 z3 z4 x0 x1 x2 x3 x4 z5 z6 z7 z8 z9 c1 c2 c3 c4 c5 c6 c7 c8 cl : ClassId) : List (ClassId × FieldType) := [(x8, .int), (x9, .boolean), (y3, .int), (y4, .int), (y5, .int), (x5, .int), (x6, .int), (x7, .boolean), (y0, .int), (y1, .int), (y2, .int), (z0, .byte), (z1, .int), (z2, .int), (z3, .int), (z4, .int), (x0, .int), (x1, .int), (x2, .boolean), (x3, .int), (x4, .int), (z5, .byte), (z6, .int), (z7, .int), (z8, .int), (z9, .int), (c1, .int), (c2, .int), (c3, .int), (c4, .int), (c5, .int), (c6, .int), (c7, .int), (c8, .int), (cl, .long)]
