abbrev y_Md_left : MethodName := ⟨"ClauseSearchModel", "left", "(I)I"⟩
theorem k_23 : (Cond.selects "ClauseSearchModel" ⟨"ClauseSearchModel", "truth", "(I)I"⟩ ⟨"ClauseSearchModel", "truth", "(I)I"⟩) ∈ bg_W := bg_in 23 (by decide +kernel) (by decide +kernel)
theorem k_37 : (Cond.initialized "ClauseSearchModel") ∈ bg_W := bg_in 37 (by decide +kernel) (by decide +kernel)
theorem k_604 : (Cond.fieldLink "ClauseSearchModel" 8 "ClauseSearchModel" "literal" "[I") ∈ bg_W := bg_in 604 (by decide +kernel) (by decide +kernel)
theorem k_605 : (Cond.fieldLink "ClauseSearchModel" 14 "ClauseSearchModel" "first" "[I") ∈ bg_W := bg_in 605 (by decide +kernel) (by decide +kernel)
theorem k_678 : (Cond.methodLink "ClauseSearchModel" 56 ⟨"ClauseSearchModel", "truth", "(I)I"⟩) ∈ bg_W := bg_in 678 (by decide +kernel) (by decide +kernel)
theorem k_680 : (Cond.instanceMethod ⟨"ClauseSearchModel", "truth", "(I)I"⟩) ∈ bg_W := bg_in 680 (by decide +kernel) (by decide +kernel)
theorem k_681 : (Cond.code ⟨"ClauseSearchModel", "truth", "(I)I"⟩ prog_9_method_7_code 3 (some .int)) ∈ bg_W := bg_in 681 (by decide +kernel) (by decide +kernel)
theorem d_Md_left_12 : decode prog_9_method_8_code 12 = .ok (.iload 4, 2) := by decide +kernel
theorem d_Md_left_14 : decode prog_9_method_8_code 14 = .ok (.aload_n 0, 1) := by decide +kernel
theorem d_Md_left_15 : decode prog_9_method_8_code 15 = .ok (.getfield 14, 3) := by decide +kernel
theorem d_Md_left_18 : decode prog_9_method_8_code 18 = .ok (.iload_n 1, 1) := by decide +kernel
theorem d_Md_left_19 : decode prog_9_method_8_code 19 = .ok (.iconst 1, 1) := by decide +kernel
theorem d_Md_left_20 : decode prog_9_method_8_code 20 = .ok (.iadd, 1) := by decide +kernel
theorem d_Md_left_21 : decode prog_9_method_8_code 21 = .ok (.iaload, 1) := by decide +kernel
theorem d_Md_left_22 : decode prog_9_method_8_code 22 = .ok (.if_icmp .ge 59, 3) := by decide +kernel
theorem d_Md_left_25 : decode prog_9_method_8_code 25 = .ok (.aload_n 0, 1) := by decide +kernel
theorem d_Md_left_26 : decode prog_9_method_8_code 26 = .ok (.aload_n 0, 1) := by decide +kernel
theorem d_Md_left_27 : decode prog_9_method_8_code 27 = .ok (.getfield 8, 3) := by decide +kernel
theorem d_Md_left_30 : decode prog_9_method_8_code 30 = .ok (.iload 4, 2) := by decide +kernel
theorem d_Md_left_32 : decode prog_9_method_8_code 32 = .ok (.iaload, 1) := by decide +kernel
theorem d_Md_left_33 : decode prog_9_method_8_code 33 = .ok (.invokevirtual 56, 3) := by decide +kernel
theorem d_Md_left_36 : decode prog_9_method_8_code 36 = .ok (.istore 5, 2) := by decide +kernel
theorem d_Md_left_38 : decode prog_9_method_8_code 38 = .ok (.iload 5, 2) := by decide +kernel
theorem d_Md_left_40 : decode prog_9_method_8_code 40 = .ok (.iconst 1, 1) := by decide +kernel
theorem d_Md_left_41 : decode prog_9_method_8_code 41 = .ok (.if_icmp .ne 7, 3) := by decide +kernel
theorem d_Md_left_48 : decode prog_9_method_8_code 48 = .ok (.iload 5, 2) := by decide +kernel
theorem d_Md_left_50 : decode prog_9_method_8_code 50 = .ok (.ifCond .ge 25, 3) := by decide +kernel
theorem d_Md_left_75 : decode prog_9_method_8_code 75 = .ok (.iinc 4 1, 3) := by decide +kernel
theorem d_Md_left_78 : decode prog_9_method_8_code 78 = .ok (.goto (-66), 3) := by decide +kernel
theorem d_Md_left_53 : decode prog_9_method_8_code 53 = .ok (.aload_n 0, 1) := by decide +kernel
theorem d_Md_left_54 : decode prog_9_method_8_code 54 = .ok (.getfield 8, 3) := by decide +kernel
theorem d_Md_left_57 : decode prog_9_method_8_code 57 = .ok (.iload 4, 2) := by decide +kernel
theorem d_Md_left_59 : decode prog_9_method_8_code 59 = .ok (.iaload, 1) := by decide +kernel
theorem d_Md_left_60 : decode prog_9_method_8_code 60 = .ok (.iload_n 3, 1) := by decide +kernel
theorem d_Md_left_61 : decode prog_9_method_8_code 61 = .ok (.if_icmp .eq 14, 3) := by decide +kernel
theorem d_Md_left_64 : decode prog_9_method_8_code 64 = .ok (.iinc 2 1, 3) := by decide +kernel
theorem d_Md_left_67 : decode prog_9_method_8_code 67 = .ok (.aload_n 0, 1) := by decide +kernel
theorem d_Md_left_68 : decode prog_9_method_8_code 68 = .ok (.getfield 8, 3) := by decide +kernel
theorem d_Md_left_71 : decode prog_9_method_8_code 71 = .ok (.iload 4, 2) := by decide +kernel
theorem d_Md_left_73 : decode prog_9_method_8_code 73 = .ok (.iaload, 1) := by decide +kernel
theorem d_Md_left_74 : decode prog_9_method_8_code 74 = .ok (.istore_n 3, 1) := by decide +kernel
theorem d_Md_left_0 : decode prog_9_method_8_code 0 = .ok (.iconst 0, 1) := by decide +kernel
theorem d_Md_left_1 : decode prog_9_method_8_code 1 = .ok (.istore_n 2, 1) := by decide +kernel
theorem d_Md_left_2 : decode prog_9_method_8_code 2 = .ok (.iconst 0, 1) := by decide +kernel
theorem d_Md_left_3 : decode prog_9_method_8_code 3 = .ok (.istore_n 3, 1) := by decide +kernel
theorem d_Md_left_4 : decode prog_9_method_8_code 4 = .ok (.aload_n 0, 1) := by decide +kernel
theorem d_Md_left_5 : decode prog_9_method_8_code 5 = .ok (.getfield 14, 3) := by decide +kernel
theorem d_Md_left_8 : decode prog_9_method_8_code 8 = .ok (.iload_n 1, 1) := by decide +kernel
theorem d_Md_left_9 : decode prog_9_method_8_code 9 = .ok (.iaload, 1) := by decide +kernel
theorem d_Md_left_10 : decode prog_9_method_8_code 10 = .ok (.istore 4, 2) := by decide +kernel
theorem d_Md_left_44 : decode prog_9_method_8_code 44 = .ok (.sipush (-1000), 3) := by decide +kernel
theorem d_Md_left_47 : decode prog_9_method_8_code 47 = .ok (.ireturn, 1) := by decide +kernel
theorem d_Md_left_81 : decode prog_9_method_8_code 81 = .ok (.iload_n 2, 1) := by decide +kernel
theorem d_Md_left_82 : decode prog_9_method_8_code 82 = .ok (.ifCond .ne 9, 3) := by decide +kernel
theorem d_Md_left_91 : decode prog_9_method_8_code 91 = .ok (.iload_n 2, 1) := by decide +kernel
theorem d_Md_left_92 : decode prog_9_method_8_code 92 = .ok (.iconst 1, 1) := by decide +kernel
theorem d_Md_left_93 : decode prog_9_method_8_code 93 = .ok (.if_icmp .ne 7, 3) := by decide +kernel
theorem d_Md_left_100 : decode prog_9_method_8_code 100 = .ok (.iconst 0, 1) := by decide +kernel
theorem d_Md_left_101 : decode prog_9_method_8_code 101 = .ok (.ireturn, 1) := by decide +kernel
theorem d_Md_left_96 : decode prog_9_method_8_code 96 = .ok (.iload_n 3, 1) := by decide +kernel
theorem d_Md_left_97 : decode prog_9_method_8_code 97 = .ok (.goto 4, 3) := by decide +kernel
theorem d_Md_left_85 : decode prog_9_method_8_code 85 = .ok (.sipush (-2000), 3) := by decide +kernel
theorem d_Md_left_88 : decode prog_9_method_8_code 88 = .ok (.goto 13, 3) := by decide +kernel
/-- the model's clauses -/
def Pok (o : Dx) (Bf Pf : Nat → Nat) : Prop := (o.cl ≤ 4000) ∧ (Bf 0 = 0) ∧ (∀ r, r ≤ o.cl → o.fs r = nI (Bf r)) ∧ (∀ r, r < o.cl → Bf r ≤ Bf (r + 1)) ∧ (∀ r, r ≤ o.cl → Bf r ≤ 20 * r) ∧ (∀ j, j < Bf o.cl → o.lt j = li (Pf j) ∧ 2 ≤ Pf j ∧ Pf j < 802)
theorem Pok.cl {o : Dx} {Bf Pf : Nat → Nat} (h : Pok o Bf Pf) : o.cl ≤ 4000 := h.1
theorem Pok.b0 {o : Dx} {Bf Pf : Nat → Nat} (h : Pok o Bf Pf) : Bf 0 = 0 := h.2.1
theorem Pok.fs {o : Dx} {Bf Pf : Nat → Nat} (h : Pok o Bf Pf) : ∀ r, r ≤ o.cl → o.fs r = nI (Bf r) := h.2.2.1
theorem Pok.up {o : Dx} {Bf Pf : Nat → Nat} (h : Pok o Bf Pf) : ∀ r, r < o.cl → Bf r ≤ Bf (r + 1) := h.2.2.2.1
theorem Pok.tp {o : Dx} {Bf Pf : Nat → Nat} (h : Pok o Bf Pf) : ∀ r, r ≤ o.cl → Bf r ≤ 20 * r := h.2.2.2.2.1
theorem Pok.lt {o : Dx} {Bf Pf : Nat → Nat} (h : Pok o Bf Pf) : ∀ j, j < Bf o.cl → o.lt j = li (Pf j) ∧ 2 ≤ Pf j ∧ Pf j < 802 := h.2.2.2.2.2
theorem Pok.mono {o : Dx} {Bf Pf : Nat → Nat} (h : Pok o Bf Pf) : ∀ d r, r + d ≤ o.cl → Bf r ≤ Bf (r + d) := by
  intro d
  induction d with
  | zero => intro r _; exact Nat.le_refl _
  | succ d ih => intro r hr; have := ih r (by omega); have := h.up (r + d) (by omega); rw [show r + (d + 1) = r + d + 1 by omega]; omega
theorem Pok.inb {o : Dx} {Bf Pf : Nat → Nat} (h : Pok o Bf Pf) {r : Nat} (hr : r < o.cl) : Bf r ≤ Bf (r + 1) ∧ Bf (r + 1) ≤ Bf o.cl ∧ Bf o.cl ≤ 80000 ∧ o.cl ≤ 4000 := by
  have h1 := h.up r hr; have h2 := h.mono (o.cl - (r + 1)) (r + 1) (by omega); rw [show r + 1 + (o.cl - (r + 1)) = o.cl by omega] at h2
  have h3 := h.tp o.cl (Nat.le_refl _); have h4 := h.cl
  omega
theorem Mok.tri {o : Dx} (h : Mok o) {v : Nat} (h1 : 1 ≤ v) (h2 : v ≤ 400) : o.wv v = -1 ∨ o.wv v = 0 ∨ o.wv v = 1 := by
  rcases h.wv v h1 h2 with q | ⟨q, _⟩
  · exact Or.inl q
  · exact Or.inr q
theorem tvl_neg {o : Dx} {c : Nat} (h : o.wv (c / 2) = -1 ∨ o.wv (c / 2) = 0 ∨ o.wv (c / 2) = 1) (hn : ¬ 0 ≤ tvl o c) : o.wv (c / 2) = -1 := by
  rcases h with h | h | h
  · exact h
  · exfalso; apply hn; unfold tvl; rw [h]; split <;> decide
  · exfalso; apply hn; unfold tvl; rw [h]; split <;> decide
theorem sg_01 (c : Nat) : sg c = 0 ∨ sg c = 1 := by
  unfold sg; split
  · exact Or.inr rfl
  · exact Or.inl rfl
/-- the model with another way and trail -/
def Dst (o : Dx) (w t : Nat → Int32) (n : Nat) (X : Nat → Nat) : Dx := Dx.of o.lt o.fs o.rw o.am w t o.ch o.mk o.vc o.cl o.gv o.na n o.sd o.cd X
theorem Mok.zero {o : Dx} {g t : Nat → Int32} {X : Nat → Nat} (h : ∀ j, j < 401 → g j = -1) : Mok (Dst o g t 0 X) :=
  ⟨fun p hp => absurd hp (Nat.not_lt_zero _), fun p q hp => absurd hp (Nat.not_lt_zero _), fun v _ v2 => Or.inl (h v (by omega)), fun p hp => absurd hp (Nat.not_lt_zero _)⟩
/-- what was chosen: on each depth a variable, the trail's length before it -/
def Hok (ch mk : Nat → Int32) (dp n1 : Nat) (X1 Y Kk : Nat → Nat) : Prop := (∀ j, j < dp → (ch j = nI (Y j) ∨ ch j = ng (Y j)) ∧ 1 ≤ Y j ∧ Y j ≤ 400) ∧ (∀ j, j < dp → mk j = nI (Kk j) ∧ Kk j < n1 ∧ X1 (Kk j) = Y j) ∧ (∀ j, j + 1 < dp → Kk j < Kk (j + 1))
theorem Hok.ch {ch mk : Nat → Int32} {dp n1 : Nat} {X1 Y Kk : Nat → Nat} (h : Hok ch mk dp n1 X1 Y Kk) : ∀ j, j < dp → (ch j = nI (Y j) ∨ ch j = ng (Y j)) ∧ 1 ≤ Y j ∧ Y j ≤ 400 := h.1
theorem Hok.mk {ch mk : Nat → Int32} {dp n1 : Nat} {X1 Y Kk : Nat → Nat} (h : Hok ch mk dp n1 X1 Y Kk) : ∀ j, j < dp → mk j = nI (Kk j) ∧ Kk j < n1 ∧ X1 (Kk j) = Y j := h.2.1
theorem Hok.up {ch mk : Nat → Int32} {dp n1 : Nat} {X1 Y Kk : Nat → Nat} (h : Hok ch mk dp n1 X1 Y Kk) : ∀ j, j + 1 < dp → Kk j < Kk (j + 1) := h.2.2
theorem Hok.ge {ch mk : Nat → Int32} {dp n1 : Nat} {X1 Y Kk : Nat → Nat} (h : Hok ch mk dp n1 X1 Y Kk) : ∀ j, j < dp → j ≤ Kk j := by
  intro j
  induction j with
  | zero => intro _; exact Nat.zero_le _
  | succ j ih => intro hj; have := ih (by omega); have := h.up j hj; omega
theorem Hok.dp {ch mk : Nat → Int32} {dp n1 : Nat} {X1 Y Kk : Nat → Nat} (h : Hok ch mk dp n1 X1 Y Kk) : dp ≤ n1 := by
  rcases Nat.eq_zero_or_pos dp with q | q
  · omega
  · have := h.ge (dp - 1) (by omega); have := (h.mk (dp - 1) (by omega)).2.1; omega
theorem Hok.push {ch mk : Nat → Int32} {dp n1 n2 v : Nat} {X1 X2 Y Kk : Nat → Nat} (h : Hok ch mk dp n1 X1 Y Kk) (hv1 : 1 ≤ v) (hv2 : v ≤ 400) (hn : n1 < n2) (hX : ∀ p, p < n1 + 1 → X2 p = upN X1 n1 v p) : Hok (upd ch dp (nI v)) (upd mk dp (nI n1)) (dp + 1) n2 X2 (upN Y dp v) (upN Kk dp n1) := by
  refine ⟨fun j hj => ?_, fun j hj => ?_, fun j hj => ?_⟩
  · by_cases hq : j = dp
    · rw [hq, pk_us, upN_s]; exact ⟨Or.inl rfl, hv1, hv2⟩
    · rw [pk_un hq, upN_n hq]; exact h.ch j (by omega)
  · by_cases hq : j = dp
    · rw [hq, pk_us, upN_s, upN_s]; exact ⟨rfl, hn, by rw [hX n1 (by omega), upN_s]⟩
    · have h1 := h.mk j (by omega)
      rw [pk_un hq, upN_n hq, upN_n hq]; exact ⟨h1.1, by omega, by rw [hX _ (by omega), upN_n (by omega)]; exact h1.2.2⟩
  · by_cases hq : j + 1 = dp
    · rw [upN_n (show j ≠ dp by omega), hq, upN_s]; exact (h.mk j (by omega)).2.1
    · rw [upN_n (show j ≠ dp by omega), upN_n hq]; exact h.up j (by omega)
theorem Hok.flip {ch mk : Nat → Int32} {dp n1 n2 i : Nat} {X1 X2 Y Kk : Nat → Nat} (h : Hok ch mk dp n1 X1 Y Kk) (hi : i < dp) (hn : Kk i < n2) (hX : ∀ p, p < Kk i + 1 → X2 p = upN X1 (Kk i) (Y i) p) : Hok (upd ch i (ng (Y i))) mk (i + 1) n2 X2 Y Kk := by
  have hm : ∀ a b, a + b < dp → Kk a ≤ Kk (a + b) := by
    intro a b
    induction b with
    | zero => intro _; exact Nat.le_refl _
    | succ b ih => intro hb; have := ih (by omega); have := h.up (a + b) hb; rw [show a + (b + 1) = a + b + 1 by omega]; omega
  refine ⟨fun j hj => ?_, fun j hj => ?_, fun j hj => h.up j (by omega)⟩
  · by_cases hq : j = i
    · rw [hq, pk_us]; exact ⟨Or.inr rfl, (h.ch i hi).2⟩
    · rw [pk_un hq]; exact h.ch j (by omega)
  · have h1 := h.mk j (by omega)
    have h2 := hm j (i - j) (by omega)
    rw [show j + (i - j) = i by omega] at h2
    refine ⟨h1.1, by omega, ?_⟩
    rw [hX _ (by omega)]
    by_cases hq : Kk j = Kk i
    · have h3 : j = i := by
        rcases Nat.lt_or_ge j i with q | q
        · have h4 := h.up j (by omega); have h5 := hm (j + 1) (i - (j + 1)) (by omega); rw [show j + 1 + (i - (j + 1)) = i by omega] at h5; omega
        · omega
      rw [hq, upN_s, h3]
    · rw [upN_n hq]; exact h1.2.2
/-- the digits of the measure -/
def dg (ch : Nat → Int32) (dp : Nat) : Nat → Nat := fun i => if i < dp then (if ch i < 0 then 0 else 1) else 2
theorem dg_le (ch : Nat → Int32) (dp i : Nat) : dg ch dp i ≤ 2 := by unfold dg; split <;> (try split) <;> omega
theorem nI_nn {v : Nat} (h : v ≤ 400) : ¬ nI v < 0 := by
  have : ∀ v : Fin 401, ¬ nI v.1 < 0 := by decide +kernel
  exact this ⟨v, by omega⟩
theorem dg_push {ch : Nat → Int32} {dp v : Nat} (hv : v ≤ 400) (hd : dp ≤ 400) : ms (dg (upd ch dp (nI v)) (dp + 1)) 401 < ms (dg ch dp) 401 := by
  refine ms_lt (j := dp) (fun i hi => ?_) ?_ (dg_le _ _) 401 (by omega)
  · unfold dg; rw [if_pos (show i < dp + 1 by omega), if_pos hi, pk_un (by omega)]
  · unfold dg; rw [if_pos (Nat.lt_succ_self _), if_neg (Nat.lt_irrefl _), pk_us, if_neg (nI_nn hv)]; decide
theorem dg_flip {ch : Nat → Int32} {dp i v : Nat} (hi : i < dp) (hd : dp ≤ 400) (hc : ¬ ch i < 0) (h1 : 1 ≤ v) (h2 : v ≤ 400) : ms (dg (upd ch i (ng v)) (i + 1)) 401 < ms (dg ch dp) 401 := by
  refine ms_lt (j := i) (fun a ha => ?_) ?_ (dg_le _ _) 401 (by omega)
  · unfold dg; rw [if_pos (show a < i + 1 by omega), if_pos (show a < dp by omega), pk_un (by omega)]
  · unfold dg; rw [if_pos (Nat.lt_succ_self _), if_pos hi, pk_us, if_pos (ng_lt h1 h2), if_neg hc]; decide
theorem Mok.free {o : Dx} {w t g : Nat → Int32} {n1 k v : Nat} {X : Nat → Nat} (h : Mok (Dst o w t n1 X)) (h2 : Mok (Dst o g t k X)) (hk : k < n1) (hX : X k = v) (v1 : 1 ≤ v) (v2 : v ≤ 400) : g v = -1 := by
  rcases h2.wv v v1 v2 with q | ⟨_, p, p1, p2⟩
  · exact q
  · exfalso
    have p1 : p < k := p1
    have p2 : X p = v := p2
    have := h.ds p k (show p < n1 by omega) (show k < n1 from hk) (show X p = X k by rw [p2, hX])
    omega
set_option maxHeartbeats 4000000 in
set_option maxRecDepth 100000 in
/-- the loop of left -/
theorem l_left {p : Program} {l : Launch} {e : Env} {R : Room} {s : State} {m : MethodId} {args : Array Value} {below : List Frame} {meth : Method} {c : Code} {dC : Nat → ClassId} {dI : Nat → Nat → Nat} {A : Nat → Prop} {Q : State → Prop} {cells slots : Nat} {H0 : Heap} {e0 : Nat} {e1 : Nat} {e2 : Nat} {e3 : Nat} {e4 : Nat} {e5 : Nat} {e6 : Nat} {e7 : Nat} {e8 : Nat} {c1 : ClassId} {c2 : ClassId} {c5 : ClassId} {o : Dx} {Bf : Nat → Nat} {Pf : Nat → Nat} {r : Nat} (hx : p.tables.exec = Jvm.exec) (hb : c.code = prog_9_method_8_code) (hml : c.maxLocals = 6) (hw : ∀ w ∈ bg_W, w.before args s = true) (hown : s.vm.findClass R_Md = some m.cls) (hK : va_K (dC, dI) vwCl [(c1, .int), (c2, .int), (c5, .int)] s) (hA : ∀ q : Nat, H0.size ≤ q → A q) (hR1 : 1 ≤ R.frames) (hR2 : 22 ≤ R.locals) (hR3 : cells ≤ R.cells) (hR4 : slots ≤ R.slots) (hM : Mok o) (hPk : Pok o Bf Pf) (hr9 : r < o.cl)
    (kk44 : ∀ (H : Heap) (locs : List Loc) (ls : Array Slot), va_P (dC, dI) vwCl [(e0, .inr (7, [.ref e1, .ref e2, .ref e3, .ref e4, .ref e5, .int (nI o.vc), .int (nI o.cl), .int (nI o.gv), .int (nI o.na), .int o.sd, .int o.cd, .ref e6, .int (nI o.ln), .ref e7, .ref e8])), (e1, .inl (c1, 80000, .inl o.lt)), (e2, .inl (c2, 4001, .inl o.fs)), (e5, .inl (c5, 401, .inl o.wv))] H → va_D A [(e0, .inr (7, [.ref e1, .ref e2, .ref e3, .ref e4, .ref e5, .int (nI o.vc), .int (nI o.cl), .int (nI o.gv), .int (nI o.na), .int o.sd, .int o.cd, .ref e6, .int (nI o.ln), .ref e7, .ref e8])), (e1, .inl (c1, 80000, .inl o.lt)), (e2, .inl (c2, 4001, .inl o.fs)), (e5, .inl (c5, 401, .inl o.wv))] → va_S A H0 H locs → lv_has ls 6 [(0, .ref e0)] → W p l e R s m args below meth c H locs cells slots Q (F0 m 44 ls []))
    (kk81 : ∀ (op : Nat) (one : Int32) (H : Heap) (locs : List Loc) (ls : Array Slot), (op ≤ 80000) → (op = 0 ∨ ∃ c0, one = li c0 ∧ 2 ≤ c0 ∧ c0 < 802 ∧ o.wv (c0 / 2) = -1) → va_P (dC, dI) vwCl [(e0, .inr (7, [.ref e1, .ref e2, .ref e3, .ref e4, .ref e5, .int (nI o.vc), .int (nI o.cl), .int (nI o.gv), .int (nI o.na), .int o.sd, .int o.cd, .ref e6, .int (nI o.ln), .ref e7, .ref e8])), (e1, .inl (c1, 80000, .inl o.lt)), (e2, .inl (c2, 4001, .inl o.fs)), (e5, .inl (c5, 401, .inl o.wv))] H → va_D A [(e0, .inr (7, [.ref e1, .ref e2, .ref e3, .ref e4, .ref e5, .int (nI o.vc), .int (nI o.cl), .int (nI o.gv), .int (nI o.na), .int o.sd, .int o.cd, .ref e6, .int (nI o.ln), .ref e7, .ref e8])), (e1, .inl (c1, 80000, .inl o.lt)), (e2, .inl (c2, 4001, .inl o.fs)), (e5, .inl (c5, 401, .inl o.wv))] → va_S A H0 H locs → lv_has ls 6 [(0, .ref e0), (2, .int (nI op)), (3, .int one)] → W p l e R s m args below meth c H locs cells slots Q (F0 m 81 ls []))
    : ∀ (f : Nat) (ix : Nat) (op : Nat) (one : Int32) (H : Heap) (locs : List Loc) (ls : Array Slot), Bf (r + 1) - ix < f → (ix ≤ Bf (r + 1)) → (op ≤ ix) → (op = 0 ∨ ∃ c0, one = li c0 ∧ 2 ≤ c0 ∧ c0 < 802 ∧ o.wv (c0 / 2) = -1) → va_P (dC, dI) vwCl [(e0, .inr (7, [.ref e1, .ref e2, .ref e3, .ref e4, .ref e5, .int (nI o.vc), .int (nI o.cl), .int (nI o.gv), .int (nI o.na), .int o.sd, .int o.cd, .ref e6, .int (nI o.ln), .ref e7, .ref e8])), (e1, .inl (c1, 80000, .inl o.lt)), (e2, .inl (c2, 4001, .inl o.fs)), (e5, .inl (c5, 401, .inl o.wv))] H → va_D A [(e0, .inr (7, [.ref e1, .ref e2, .ref e3, .ref e4, .ref e5, .int (nI o.vc), .int (nI o.cl), .int (nI o.gv), .int (nI o.na), .int o.sd, .int o.cd, .ref e6, .int (nI o.ln), .ref e7, .ref e8])), (e1, .inl (c1, 80000, .inl o.lt)), (e2, .inl (c2, 4001, .inl o.fs)), (e5, .inl (c5, 401, .inl o.wv))] → va_S A H0 H locs → lv_has ls 6 [(0, .ref e0), (1, .int (nI r)), (2, .int (nI op)), (3, .int one), (4, .int (nI ix))] → W p l e R s m args below meth c H locs cells slots Q (F0 m 12 ls []) := by
  intro f
  induction f with
  | zero => intro ix op one H locs ls q0 q2 q3 q4 hP hD hS hl; exact absurd q0 (Nat.not_lt_zero _)
  | succ f ih =>
    intro ix op one H locs ls q0 q2 q3 q4 hP hD hS hl
    obtain ⟨i1, i2, i3, i4⟩ := hPk.inb hr9
    refine lv_iload hx hb d_Md_left_12 (lv_at hl 4 rfl) ?_
    refine lv_aload_n hx hb d_Md_left_14 rfl (lv_at hl 0 rfl) ?_
    refine va_get (D := (dC, dI)) (ci := 7) (v := .ref e2) (C := R_Md) (T := F_Md) (N := 15) hx hb hw in_Md hown hK hP 0 rfl rfl 1 (by decide) (hw (Cond.fieldLink "ClauseSearchModel" 14 "ClauseSearchModel" "first" "[I") k_605) (fun _ h9 => h9) rfl d_Md_left_15 ?_
    refine lv_iload_n hx hb d_Md_left_18 rfl (lv_at hl 1 rfl) ?_
    refine lv_iconst (v := nI 1) hx hb d_Md_left_19 (by decide) ?_
    refine lv_iadd hx hb d_Md_left_20 ?_
    refine lv_topi (fun y_1 ey_1 => ?_)
    obtain rfl : y_1 = nI (r + 1) := ey_1.trans (nI_add r 1)
    refine va_iald hx hb hK hP 2 1 rfl rfl (vp_in_nI (by omega) (by omega)) d_Md_left_21 ?_
    refine lv_topi (fun y_2 ey_2 => ?_)
    rw [nI_clamp (by omega)] at ey_2
    rw [hPk.fs _ (by omega)] at ey_2
    subst ey_2
    refine lv_icmp_ge (tgt := 81) hx hb d_Md_left_22 (by decide) (fun c_22 => ?_) (fun c_22 => ?_)
    · have c_22 : Bf (r + 1) ≤ ix := (nI_leI (a := Bf (r + 1)) (b := ix) (by omega) (by omega)).mp c_22
      exact kk81 op one _ _ ls (by omega) q4 hP hD hS (lv_sub hl [0, 2, 3] rfl)
    · have c_22 : ¬ (Bf (r + 1) ≤ ix) := fun qq9 => c_22 ((nI_leI (a := Bf (r + 1)) (b := ix) (by omega) (by omega)).mpr qq9)
      refine lv_aload_n hx hb d_Md_left_25 rfl (lv_at hl 0 rfl) ?_
      refine lv_aload_n hx hb d_Md_left_26 rfl (lv_at hl 0 rfl) ?_
      refine va_get (D := (dC, dI)) (ci := 7) (v := .ref e1) (C := R_Md) (T := F_Md) (N := 15) hx hb hw in_Md hown hK hP 0 rfl rfl 0 (by decide) (hw (Cond.fieldLink "ClauseSearchModel" 8 "ClauseSearchModel" "literal" "[I") k_604) (fun _ h9 => h9) rfl d_Md_left_27 ?_
      refine lv_iload hx hb d_Md_left_30 (lv_at hl 4 rfl) ?_
      refine va_iald hx hb hK hP 1 0 rfl rfl (vp_in_nI (by omega) (by omega)) d_Md_left_32 ?_
      refine lv_topi (fun y_3 ey_3 => ?_)
      rw [nI_clamp (by omega)] at ey_3
      have j1 := (hPk.lt ix (by omega)).2
      rw [(hPk.lt _ (by omega)).1] at ey_3
      subst ey_3
      have hPc := hP.sub (ws' := [(e0, .inr (7, [.ref e1, .ref e2, .ref e3, .ref e4, .ref e5, .int (nI o.vc), .int (nI o.cl), .int (nI o.gv), .int (nI o.na), .int o.sd, .int o.cd, .ref e6, .int (nI o.ln), .ref e7, .ref e8])), (e5, .inl (c5, 401, .inl o.wv))]) [0, 3] rfl
      have hDc := hD.sub (ws' := [(e0, .inr (7, [.ref e1, .ref e2, .ref e3, .ref e4, .ref e5, .int (nI o.vc), .int (nI o.cl), .int (nI o.gv), .int (nI o.na), .int o.sd, .int o.cd, .ref e6, .int (nI o.ln), .ref e7, .ref e8])), (e5, .inl (c5, 401, .inl o.wv))]) [0, 3] (by decide) rfl
      have hKc := hK.sub (tys' := [(c5, .int)]) [2] rfl
      have hFc := va_free (wc := [(e0, .inr (7, [.ref e1, .ref e2, .ref e3, .ref e4, .ref e5, .int (nI o.vc), .int (nI o.cl), .int (nI o.gv), .int (nI o.na), .int o.sd, .int o.cd, .ref e6, .int (nI o.ln), .ref e7, .ref e8])), (e5, .inl (c5, 401, .inl o.wv))]) hD hS hA [0, 3] rfl
      refine va_calli (va_runV (As := [.int (li (Pf ix))]) (rest := []) ⟨hx, hb, hml, hown, hw⟩ (c_Md_truth l dC dI e0 e1 e2 e3 e4 e5 e6 e7 e8 c5 H.size o (Pf ix) j1.1 j1.2 (hM.tri (by omega) (by omega))) (cb_V (C := R_Md) 1 hw k_681 k_37 k_678 k_680 k_23 rfl rfl (by decide +kernel) ⟨Nat.le_trans (Nat.le_of_ble_eq_true rfl) hR1, Nat.le_trans (Nat.le_of_ble_eq_true rfl) hR2⟩) ⟨fun a U g mk q => by obtain ⟨q0, q1, qP, qK, qD⟩ := q; exact ⟨q0, q1, qP, va_K.moved (u := U) (U := U.calling g mk a) (Vm.Alike.refl U.vm) qK, qD⟩, va_recv hKc hPc (ci := 7) (q0 := 0) rfl rfl, fun U hU hW => ⟨rfl, by rw [hU], by rw [hU]; exact hPc, va_K.moved hW.alike hKc, hDc.weaken (fun _ _ _ _ => trivial)⟩⟩ rfl rfl hl.1 rfl (lv_room (Nat.le_of_ble_eq_true rfl)) d_Md_left_33 ⟨hR3, hR4⟩) hS (fun q _ h => hFc q h) hFc (fun r_4 u t H1 locs ht hvm hw9 hB hz1 hk1 hS => ?_)
      obtain ⟨f_5, hP1, hK1, hD1⟩ := hB
      rw [ht] at hP1
      have hK1 := va_K.moved hvm.symm hK1
      obtain ⟨hP, hD⟩ := va_join (wr := [(e1, .inl (c1, 80000, .inl o.lt)), (e2, .inl (c2, 4001, .inl o.fs))]) (w1 := [(e0, .inr (7, [.ref e1, .ref e2, .ref e3, .ref e4, .ref e5, .int (nI o.vc), .int (nI o.cl), .int (nI o.gv), .int (nI o.na), .int o.sd, .int o.cd, .ref e6, .int (nI o.ln), .ref e7, .ref e8])), (e5, .inl (c5, 401, .inl o.wv))]) hP hD [0, 3] [1, 2] rfl rfl (by decide) (by decide) hk1 hFc hP1 hD1
      generalize H1 = H at hP hS ⊢
      have hP : va_P (dC, dI) vwCl [(e1, .inl (c1, 80000, .inl o.lt)), (e2, .inl (c2, 4001, .inl o.fs)), (e0, .inr (7, [.ref e1, .ref e2, .ref e3, .ref e4, .ref e5, .int (nI o.vc), .int (nI o.cl), .int (nI o.gv), .int (nI o.na), .int o.sd, .int o.cd, .ref e6, .int (nI o.ln), .ref e7, .ref e8])), (e5, .inl (c5, 401, .inl o.wv))] H := hP
      have hD : va_D A [(e1, .inl (c1, 80000, .inl o.lt)), (e2, .inl (c2, 4001, .inl o.fs)), (e0, .inr (7, [.ref e1, .ref e2, .ref e3, .ref e4, .ref e5, .int (nI o.vc), .int (nI o.cl), .int (nI o.gv), .int (nI o.na), .int o.sd, .int o.cd, .ref e6, .int (nI o.ln), .ref e7, .ref e8])), (e5, .inl (c5, 401, .inl o.wv))] := hD
      refine W.widen (k := cells) (n := slots) (Nat.le_refl _) (Nat.le_refl _) ?_
      have hw9 : r_4 = u := hw9
      subst hw9
      refine lv_istore (lv' := [(5, .int r_4), (0, .ref e0), (1, .int (nI r)), (2, .int (nI op)), (3, .int one), (4, .int (nI ix))]) hx hb d_Md_left_36 hl (by decide) rfl (fun ls hl => ?_)
      refine lv_iload hx hb d_Md_left_38 (lv_at hl 0 rfl) ?_
      refine lv_iconst (v := 1) hx hb d_Md_left_40 (by decide) ?_
      refine lv_icmp_ne (tgt := 48) hx hb d_Md_left_41 (by decide) (fun c_41 => ?_) (fun c_41 => ?_)
      · refine lv_iload hx hb d_Md_left_48 (lv_at hl 0 rfl) ?_
        refine lv_if_ge (tgt := 75) hx hb d_Md_left_50 (by decide) (fun c_50 => ?_) (fun c_50 => ?_)
        · refine lv_iinc (v := nI (ix + 1)) (lv' := [(4, .int (nI (ix + 1))), (5, .int r_4), (0, .ref e0), (1, .int (nI r)), (2, .int (nI op)), (3, .int one)]) hx hb d_Md_left_75 hl (k := 5) rfl (nI_1 ix) (by decide) rfl (fun ls hl => ?_)
          refine lv_goto (tgt := 12) hx hb d_Md_left_78 (by decide) ?_
          have hP := hP.sub (ws' := [(e0, .inr (7, [.ref e1, .ref e2, .ref e3, .ref e4, .ref e5, .int (nI o.vc), .int (nI o.cl), .int (nI o.gv), .int (nI o.na), .int o.sd, .int o.cd, .ref e6, .int (nI o.ln), .ref e7, .ref e8])), (e1, .inl (c1, 80000, .inl o.lt)), (e2, .inl (c2, 4001, .inl o.fs)), (e5, .inl (c5, 401, .inl o.wv))]) [2, 0, 1, 3] rfl
          have hD := hD.sub (ws' := [(e0, .inr (7, [.ref e1, .ref e2, .ref e3, .ref e4, .ref e5, .int (nI o.vc), .int (nI o.cl), .int (nI o.gv), .int (nI o.na), .int o.sd, .int o.cd, .ref e6, .int (nI o.ln), .ref e7, .ref e8])), (e1, .inl (c1, 80000, .inl o.lt)), (e2, .inl (c2, 4001, .inl o.fs)), (e5, .inl (c5, 401, .inl o.wv))]) [2, 0, 1, 3] (by decide) rfl
          exact ih (ix + 1) op one _ _ ls (by omega) (by omega) (by omega) q4 hP hD hS (lv_sub hl [2, 3, 4, 5, 0] rfl)
        · have hn1 := tvl_neg (hM.tri (v := Pf ix / 2) (by omega) (by omega)) (by rw [← f_5]; exact c_50)
          refine lv_aload_n hx hb d_Md_left_53 rfl (lv_at hl 1 rfl) ?_
          refine va_get (D := (dC, dI)) (ci := 7) (v := .ref e1) (C := R_Md) (T := F_Md) (N := 15) hx hb hw in_Md hown hK hP 2 rfl rfl 0 (by decide) (hw (Cond.fieldLink "ClauseSearchModel" 8 "ClauseSearchModel" "literal" "[I") k_604) (fun _ h9 => h9) rfl d_Md_left_54 ?_
          refine lv_iload hx hb d_Md_left_57 (lv_at hl 5 rfl) ?_
          refine va_iald hx hb hK hP 0 0 rfl rfl (vp_in_nI (by omega) (by omega)) d_Md_left_59 ?_
          refine lv_topi (fun y_6 ey_6 => ?_)
          rw [nI_clamp (by omega)] at ey_6
          rw [(hPk.lt _ (by omega)).1] at ey_6
          subst ey_6
          refine lv_iload_n hx hb d_Md_left_60 rfl (lv_at hl 4 rfl) ?_
          refine lv_icmp_eq (tgt := 75) hx hb d_Md_left_61 (by decide) (fun c_61 => ?_) (fun c_61 => ?_)
          · refine lv_iinc (v := nI (ix + 1)) (lv' := [(4, .int (nI (ix + 1))), (5, .int r_4), (0, .ref e0), (1, .int (nI r)), (2, .int (nI op)), (3, .int one)]) hx hb d_Md_left_75 hl (k := 5) rfl (nI_1 ix) (by decide) rfl (fun ls hl => ?_)
            refine lv_goto (tgt := 12) hx hb d_Md_left_78 (by decide) ?_
            have hP := hP.sub (ws' := [(e0, .inr (7, [.ref e1, .ref e2, .ref e3, .ref e4, .ref e5, .int (nI o.vc), .int (nI o.cl), .int (nI o.gv), .int (nI o.na), .int o.sd, .int o.cd, .ref e6, .int (nI o.ln), .ref e7, .ref e8])), (e1, .inl (c1, 80000, .inl o.lt)), (e2, .inl (c2, 4001, .inl o.fs)), (e5, .inl (c5, 401, .inl o.wv))]) [2, 0, 1, 3] rfl
            have hD := hD.sub (ws' := [(e0, .inr (7, [.ref e1, .ref e2, .ref e3, .ref e4, .ref e5, .int (nI o.vc), .int (nI o.cl), .int (nI o.gv), .int (nI o.na), .int o.sd, .int o.cd, .ref e6, .int (nI o.ln), .ref e7, .ref e8])), (e1, .inl (c1, 80000, .inl o.lt)), (e2, .inl (c2, 4001, .inl o.fs)), (e5, .inl (c5, 401, .inl o.wv))]) [2, 0, 1, 3] (by decide) rfl
            exact ih (ix + 1) op one _ _ ls (by omega) (by omega) (by omega) q4 hP hD hS (lv_sub hl [2, 3, 4, 5, 0] rfl)
          · refine lv_iinc (v := nI (op + 1)) (lv' := [(2, .int (nI (op + 1))), (5, .int r_4), (0, .ref e0), (1, .int (nI r)), (3, .int one), (4, .int (nI ix))]) hx hb d_Md_left_64 hl (k := 3) rfl (nI_1 op) (by decide) rfl (fun ls hl => ?_)
            refine lv_aload_n hx hb d_Md_left_67 rfl (lv_at hl 2 rfl) ?_
            refine va_get (D := (dC, dI)) (ci := 7) (v := .ref e1) (C := R_Md) (T := F_Md) (N := 15) hx hb hw in_Md hown hK hP 2 rfl rfl 0 (by decide) (hw (Cond.fieldLink "ClauseSearchModel" 8 "ClauseSearchModel" "literal" "[I") k_604) (fun _ h9 => h9) rfl d_Md_left_68 ?_
            refine lv_iload hx hb d_Md_left_71 (lv_at hl 5 rfl) ?_
            refine va_iald hx hb hK hP 0 0 rfl rfl (vp_in_nI (by omega) (by omega)) d_Md_left_73 ?_
            refine lv_topi (fun y_7 ey_7 => ?_)
            rw [nI_clamp (by omega)] at ey_7
            rw [(hPk.lt _ (by omega)).1] at ey_7
            subst ey_7
            refine lv_istore_n (lv' := [(3, .int (li (Pf ix))), (2, .int (nI (op + 1))), (5, .int r_4), (0, .ref e0), (1, .int (nI r)), (4, .int (nI ix))]) hx hb d_Md_left_74 rfl hl (by decide) rfl (fun ls hl => ?_)
            refine lv_iinc (v := nI (ix + 1)) (lv' := [(4, .int (nI (ix + 1))), (3, .int (li (Pf ix))), (2, .int (nI (op + 1))), (5, .int r_4), (0, .ref e0), (1, .int (nI r))]) hx hb d_Md_left_75 hl (k := 5) rfl (nI_1 ix) (by decide) rfl (fun ls hl => ?_)
            refine lv_goto (tgt := 12) hx hb d_Md_left_78 (by decide) ?_
            have hP := hP.sub (ws' := [(e0, .inr (7, [.ref e1, .ref e2, .ref e3, .ref e4, .ref e5, .int (nI o.vc), .int (nI o.cl), .int (nI o.gv), .int (nI o.na), .int o.sd, .int o.cd, .ref e6, .int (nI o.ln), .ref e7, .ref e8])), (e1, .inl (c1, 80000, .inl o.lt)), (e2, .inl (c2, 4001, .inl o.fs)), (e5, .inl (c5, 401, .inl o.wv))]) [2, 0, 1, 3] rfl
            have hD := hD.sub (ws' := [(e0, .inr (7, [.ref e1, .ref e2, .ref e3, .ref e4, .ref e5, .int (nI o.vc), .int (nI o.cl), .int (nI o.gv), .int (nI o.na), .int o.sd, .int o.cd, .ref e6, .int (nI o.ln), .ref e7, .ref e8])), (e1, .inl (c1, 80000, .inl o.lt)), (e2, .inl (c2, 4001, .inl o.fs)), (e5, .inl (c5, 401, .inl o.wv))]) [2, 0, 1, 3] (by decide) rfl
            exact ih (ix + 1) (op + 1) (li (Pf ix)) _ _ ls (by omega) (by omega) (by omega) (Or.inr ⟨_, rfl, j1.1, j1.2, hn1⟩) hP hD hS (lv_sub hl [4, 5, 2, 1, 0] rfl)
      · have hP := hP.sub (ws' := [(e0, .inr (7, [.ref e1, .ref e2, .ref e3, .ref e4, .ref e5, .int (nI o.vc), .int (nI o.cl), .int (nI o.gv), .int (nI o.na), .int o.sd, .int o.cd, .ref e6, .int (nI o.ln), .ref e7, .ref e8])), (e1, .inl (c1, 80000, .inl o.lt)), (e2, .inl (c2, 4001, .inl o.fs)), (e5, .inl (c5, 401, .inl o.wv))]) [2, 0, 1, 3] rfl
        have hD := hD.sub (ws' := [(e0, .inr (7, [.ref e1, .ref e2, .ref e3, .ref e4, .ref e5, .int (nI o.vc), .int (nI o.cl), .int (nI o.gv), .int (nI o.na), .int o.sd, .int o.cd, .ref e6, .int (nI o.ln), .ref e7, .ref e8])), (e1, .inl (c1, 80000, .inl o.lt)), (e2, .inl (c2, 4001, .inl o.fs)), (e5, .inl (c5, 401, .inl o.wv))]) [2, 0, 1, 3] (by decide) rfl
        exact kk44  _ _ ls  hP hD hS (lv_sub hl [1] rfl)

set_option maxHeartbeats 4000000 in
set_option maxRecDepth 100000 in
/-- left(c) -/
theorem c_Md_left (l : Launch) (dC : Nat → ClassId) (dI : Nat → Nat → Nat) (e0 : Nat) (e1 : Nat) (e2 : Nat) (e3 : Nat) (e4 : Nat) (e5 : Nat) (e6 : Nat) (e7 : Nat) (e8 : Nat) (c1 : ClassId) (c2 : ClassId) (c5 : ClassId) (sz : Nat) (o : Dx) (Bf : Nat → Nat) (Pf : Nat → Nat) (r : Nat) (hM : Mok o) (hPk : Pok o Bf Pf) (hr9 : r < o.cl) : Met l y_Md_left (wq y_Md_left prog_9_method_8_code 6 (some .int)) ({ frames := 1, cells := 0, slots := 0, locals := 22 }) (va_Pc [.ref e0, .int (nI r)] (fun U => U.heap.size = sz ∧ va_P (dC, dI) vwCl [(e0, .inr (7, [.ref e1, .ref e2, .ref e3, .ref e4, .ref e5, .int (nI o.vc), .int (nI o.cl), .int (nI o.gv), .int (nI o.na), .int o.sd, .int o.cd, .ref e6, .int (nI o.ln), .ref e7, .ref e8])), (e1, .inl (c1, 80000, .inl o.lt)), (e2, .inl (c2, 4001, .inl o.fs)), (e5, .inl (c5, 401, .inl o.wv))] U.heap ∧ va_K (dC, dI) vwCl [(c1, .int), (c2, .int), (c5, .int)] U ∧ va_D (fun _ => True) [(e0, .inr (7, [.ref e1, .ref e2, .ref e3, .ref e4, .ref e5, .int (nI o.vc), .int (nI o.cl), .int (nI o.gv), .int (nI o.na), .int o.sd, .int o.cd, .ref e6, .int (nI o.ln), .ref e7, .ref e8])), (e1, .inl (c1, 80000, .inl o.lt)), (e2, .inl (c2, 4001, .inl o.fs)), (e5, .inl (c5, 401, .inl o.wv))])) (va_Qi (fun (r : Int32) (r9 : Int32) => r = r9) (fun (r9 : Int32) t => (r9 = -1000 ∨ r9 = -2000 ∨ r9 = 0 ∨ ∃ c0, r9 = li c0 ∧ 2 ≤ c0 ∧ c0 < 802 ∧ o.wv (c0 / 2) = -1) ∧ va_P (dC, dI) vwCl [(e0, .inr (7, [.ref e1, .ref e2, .ref e3, .ref e4, .ref e5, .int (nI o.vc), .int (nI o.cl), .int (nI o.gv), .int (nI o.na), .int o.sd, .int o.cd, .ref e6, .int (nI o.ln), .ref e7, .ref e8])), (e1, .inl (c1, 80000, .inl o.lt)), (e2, .inl (c2, 4001, .inl o.fs)), (e5, .inl (c5, 401, .inl o.wv))] t.heap ∧ va_K (dC, dI) vwCl [(c1, .int), (c2, .int), (c5, .int)] t ∧ va_D (va_A [(e0, .inr (7, [.ref e1, .ref e2, .ref e3, .ref e4, .ref e5, .int (nI o.vc), .int (nI o.cl), .int (nI o.gv), .int (nI o.na), .int o.sd, .int o.cd, .ref e6, .int (nI o.ln), .ref e7, .ref e8])), (e1, .inl (c1, 80000, .inl o.lt)), (e2, .inl (c2, 4001, .inl o.fs)), (e5, .inl (c5, 401, .inl o.wv))] sz) [(e0, .inr (7, [.ref e1, .ref e2, .ref e3, .ref e4, .ref e5, .int (nI o.vc), .int (nI o.cl), .int (nI o.gv), .int (nI o.na), .int o.sd, .int o.cd, .ref e6, .int (nI o.ln), .ref e7, .ref e8])), (e1, .inl (c1, 80000, .inl o.lt)), (e2, .inl (c2, 4001, .inl o.fs)), (e5, .inl (c5, 401, .inl o.wv))]) (va_A [(e0, .inr (7, [.ref e1, .ref e2, .ref e3, .ref e4, .ref e5, .int (nI o.vc), .int (nI o.cl), .int (nI o.gv), .int (nI o.na), .int o.sd, .int o.cd, .ref e6, .int (nI o.ln), .ref e7, .ref e8])), (e1, .inl (c1, 80000, .inl o.lt)), (e2, .inl (c2, 4001, .inl o.fs)), (e5, .inl (c5, 401, .inl o.wv))] sz)) (0) (0) (va_A [(e0, .inr (7, [.ref e1, .ref e2, .ref e3, .ref e4, .ref e5, .int (nI o.vc), .int (nI o.cl), .int (nI o.gv), .int (nI o.na), .int o.sd, .int o.cd, .ref e6, .int (nI o.ln), .ref e7, .ref e8])), (e1, .inl (c1, 80000, .inl o.lt)), (e2, .inl (c2, 4001, .inl o.fs)), (e5, .inl (c5, 401, .inl o.wv))] sz) := by
  refine Met.ofW (cc := prog_9_method_8_code) (maxL := 6) (ret := (some .int)) (by decide) rfl ?_
  intro p e s m args below meth c s₁ B hml hv
  obtain ⟨rfl, hsz, hP, hK, hD0⟩ := hv
  have hx := B.exec
  have hb := B.bytes
  have hr := B.returns
  have hw : ∀ w ∈ bg_W, w.before #[Value.ref e0, Value.int (nI r)] s = true := fun w h => atoms_spec (ws := (wq y_Md_left prog_9_method_8_code 6 (some .int))) B.pre w (List.mem_cons_of_mem _ h)
  have hown : s.vm.findClass R_Md = some m.cls := findClass_of_methodNamed B.named
  have hlocks := B.notSynchronized
  subst hsz
  have hD := hD0.self (sz := s.heap.size)
  generalize hAe : va_A [(e0, .inr (7, [.ref e1, .ref e2, .ref e3, .ref e4, .ref e5, .int (nI o.vc), .int (nI o.cl), .int (nI o.gv), .int (nI o.na), .int o.sd, .int o.cd, .ref e6, .int (nI o.ln), .ref e7, .ref e8])), (e1, .inl (c1, 80000, .inl o.lt)), (e2, .inl (c2, 4001, .inl o.fs)), (e5, .inl (c5, 401, .inl o.wv))] s.heap.size = A at hD ⊢
  have hA : ∀ q : Nat, s.heap.size ≤ q → A q := fun q h => by rw [← hAe]; exact Or.inr h
  have hS : va_S A s.heap s.heap [] := va_S.rf
  have hP : va_P (dC, dI) vwCl [(e0, .inr (7, [.ref e1, .ref e2, .ref e3, .ref e4, .ref e5, .int (nI o.vc), .int (nI o.cl), .int (nI o.gv), .int (nI o.na), .int o.sd, .int o.cd, .ref e6, .int (nI o.ln), .ref e7, .ref e8])), (e1, .inl (c1, 80000, .inl o.lt)), (e2, .inl (c2, 4001, .inl o.fs)), (e5, .inl (c5, 401, .inl o.wv))] s.heap := hP
  have hl := lv_entry ([.ref e0, .int (nI r)]) (n := 6) (Nat.le_of_ble_eq_true rfl)
  rw [lg_entry_eq]
  generalize (lg_sl ([.ref e0, .int (nI r)]) ++ List.replicate (6 - (lg_sl ([.ref e0, .int (nI r)])).length) Slot.unset).toArray = ls at hl ⊢
  have hl : lv_has ls 6 [(0, .ref e0), (1, .int (nI r))] := hl
  obtain ⟨H, hH⟩ : ∃ H : Heap, H = s.heap := ⟨_, rfl⟩
  rw [← hH] at hP
  have hS : va_S A s.heap H [] := by rw [hH]; exact va_S.rf
  show W p l e _ s m _ below meth c s.heap [] 0 0 _ _
  rw [← hH]
  obtain ⟨i1, i2, i3, i4⟩ := hPk.inb hr9
  refine lv_iconst (v := nI 0) hx hb d_Md_left_0 (by decide) ?_
  refine lv_istore_n (lv' := [(2, .int (nI 0)), (0, .ref e0), (1, .int (nI r))]) hx hb d_Md_left_1 rfl hl (by decide) rfl (fun ls hl => ?_)
  refine lv_iconst (v := 0) hx hb d_Md_left_2 (by decide) ?_
  refine lv_istore_n (lv' := [(3, .int 0), (2, .int (nI 0)), (0, .ref e0), (1, .int (nI r))]) hx hb d_Md_left_3 rfl hl (by decide) rfl (fun ls hl => ?_)
  refine lv_aload_n hx hb d_Md_left_4 rfl (lv_at hl 2 rfl) ?_
  refine va_get (D := (dC, dI)) (ci := 7) (v := .ref e2) (C := R_Md) (T := F_Md) (N := 15) hx hb hw in_Md hown hK hP 0 rfl rfl 1 (by decide) (hw (Cond.fieldLink "ClauseSearchModel" 14 "ClauseSearchModel" "first" "[I") k_605) (fun _ h9 => h9) rfl d_Md_left_5 ?_
  refine lv_iload_n hx hb d_Md_left_8 rfl (lv_at hl 3 rfl) ?_
  refine va_iald hx hb hK hP 2 1 rfl rfl (vp_in_nI (by omega) (by omega)) d_Md_left_9 ?_
  refine lv_topi (fun y_1 ey_1 => ?_)
  rw [nI_clamp (by omega)] at ey_1
  rw [hPk.fs _ (by omega)] at ey_1
  subst ey_1
  refine lv_istore (lv' := [(4, .int (nI (Bf r))), (3, .int 0), (2, .int (nI 0)), (0, .ref e0), (1, .int (nI r))]) hx hb d_Md_left_10 hl (by decide) rfl (fun ls hl => ?_)
  refine l_left (o := o) (Bf := Bf) (Pf := Pf) (r := r) hx hb hml hw hown (hK.sub (tys' := [(c1, .int), (c2, .int), (c5, .int)]) [0, 1, 2] rfl) hA (Nat.le_of_ble_eq_true rfl) (Nat.le_of_ble_eq_true rfl) (Nat.le_of_ble_eq_true rfl) (Nat.le_of_ble_eq_true rfl) hM hPk hr9 (fun  H1 locs ls  hP1 hD1 hS hl => ?_) (fun n_2 g_3 H1 locs ls f_4 f_5 hP1 hD1 hS hl => ?_) (_) (Bf r) 0 0 _ _ ls (Nat.lt_succ_self _) (by omega) (Nat.zero_le _) (Or.inl rfl) (hP.sub (ws' := [(e0, .inr (7, [.ref e1, .ref e2, .ref e3, .ref e4, .ref e5, .int (nI o.vc), .int (nI o.cl), .int (nI o.gv), .int (nI o.na), .int o.sd, .int o.cd, .ref e6, .int (nI o.ln), .ref e7, .ref e8])), (e1, .inl (c1, 80000, .inl o.lt)), (e2, .inl (c2, 4001, .inl o.fs)), (e5, .inl (c5, 401, .inl o.wv))]) [0, 1, 2, 3] rfl) (hD.sub (ws' := [(e0, .inr (7, [.ref e1, .ref e2, .ref e3, .ref e4, .ref e5, .int (nI o.vc), .int (nI o.cl), .int (nI o.gv), .int (nI o.na), .int o.sd, .int o.cd, .ref e6, .int (nI o.ln), .ref e7, .ref e8])), (e1, .inl (c1, 80000, .inl o.lt)), (e2, .inl (c2, 4001, .inl o.fs)), (e5, .inl (c5, 401, .inl o.wv))]) [0, 1, 2, 3] (by decide) rfl) hS (lv_sub hl [3, 4, 2, 1, 0] rfl)
  · have hP := hP1
    have hD := hD1
    generalize H1 = H at hP hS ⊢
    have hP : va_P (dC, dI) vwCl [(e0, .inr (7, [.ref e1, .ref e2, .ref e3, .ref e4, .ref e5, .int (nI o.vc), .int (nI o.cl), .int (nI o.gv), .int (nI o.na), .int o.sd, .int o.cd, .ref e6, .int (nI o.ln), .ref e7, .ref e8])), (e1, .inl (c1, 80000, .inl o.lt)), (e2, .inl (c2, 4001, .inl o.fs)), (e5, .inl (c5, 401, .inl o.wv))] H := hP
    have hD : va_D A [(e0, .inr (7, [.ref e1, .ref e2, .ref e3, .ref e4, .ref e5, .int (nI o.vc), .int (nI o.cl), .int (nI o.gv), .int (nI o.na), .int o.sd, .int o.cd, .ref e6, .int (nI o.ln), .ref e7, .ref e8])), (e1, .inl (c1, 80000, .inl o.lt)), (e2, .inl (c2, 4001, .inl o.fs)), (e5, .inl (c5, 401, .inl o.wv))] := hD
    refine lv_sipush (v := (-1000)) hx hb d_Md_left_44 (by decide) ?_
    have hK := hK.sub (tys' := [(c1, .int), (c2, .int), (c5, .int)]) [0, 1, 2] rfl
    refine W.widen (k := 0) (n := 0) (by decide) (by decide) ?_
    exact W.iret (v := (-1000)) hx hb hr (fun t ht hW => ⟨⟨(-1000), (-1000), rfl, rfl, (Or.inl rfl), by rw [ht]; exact hP, va_K.moved hW.alike hK, hD⟩, hS.F ht⟩) hS.2.2 d_Md_left_47
  · have hP := hP1
    have hD := hD1
    generalize H1 = H at hP hS ⊢
    have hP : va_P (dC, dI) vwCl [(e0, .inr (7, [.ref e1, .ref e2, .ref e3, .ref e4, .ref e5, .int (nI o.vc), .int (nI o.cl), .int (nI o.gv), .int (nI o.na), .int o.sd, .int o.cd, .ref e6, .int (nI o.ln), .ref e7, .ref e8])), (e1, .inl (c1, 80000, .inl o.lt)), (e2, .inl (c2, 4001, .inl o.fs)), (e5, .inl (c5, 401, .inl o.wv))] H := hP
    have hD : va_D A [(e0, .inr (7, [.ref e1, .ref e2, .ref e3, .ref e4, .ref e5, .int (nI o.vc), .int (nI o.cl), .int (nI o.gv), .int (nI o.na), .int o.sd, .int o.cd, .ref e6, .int (nI o.ln), .ref e7, .ref e8])), (e1, .inl (c1, 80000, .inl o.lt)), (e2, .inl (c2, 4001, .inl o.fs)), (e5, .inl (c5, 401, .inl o.wv))] := hD
    have hop9 := f_4
    refine lv_iload_n hx hb d_Md_left_81 rfl (lv_at hl 1 rfl) ?_
    refine lv_if_ne (tgt := 91) hx hb d_Md_left_82 (by decide) (fun c_82 => ?_) (fun c_82 => ?_)
    · have c_82 : ¬ (n_2 = 0) := fun qq9 => c_82 ((nI_eq (a := n_2) (b := 0) (by omega) (by omega)).mpr qq9)
      refine lv_iload_n hx hb d_Md_left_91 rfl (lv_at hl 1 rfl) ?_
      refine lv_iconst (v := nI 1) hx hb d_Md_left_92 (by decide) ?_
      refine lv_icmp_ne (tgt := 100) hx hb d_Md_left_93 (by decide) (fun c_93 => ?_) (fun c_93 => ?_)
      · have c_93 : ¬ (n_2 = 1) := fun qq9 => c_93 ((nI_eq (a := n_2) (b := 1) (by omega) (by omega)).mpr qq9)
        refine lv_iconst (v := 0) hx hb d_Md_left_100 (by decide) ?_
        have hK := hK.sub (tys' := [(c1, .int), (c2, .int), (c5, .int)]) [0, 1, 2] rfl
        refine W.widen (k := 0) (n := 0) (by decide) (by decide) ?_
        exact W.iret (v := 0) hx hb hr (fun t ht hW => ⟨⟨0, 0, rfl, rfl, (Or.inr (Or.inr (Or.inl rfl))), by rw [ht]; exact hP, va_K.moved hW.alike hK, hD⟩, hS.F ht⟩) hS.2.2 d_Md_left_101
      · have c_93 : n_2 = 1 := (nI_eq (a := n_2) (b := 1) (by omega) (by omega)).mp c_93
        refine lv_iload_n hx hb d_Md_left_96 rfl (lv_at hl 2 rfl) ?_
        refine lv_goto (tgt := 101) hx hb d_Md_left_97 (by decide) ?_
        have hK := hK.sub (tys' := [(c1, .int), (c2, .int), (c5, .int)]) [0, 1, 2] rfl
        refine W.widen (k := 0) (n := 0) (by decide) (by decide) ?_
        exact W.iret (v := g_3) hx hb hr (fun t ht hW => ⟨⟨g_3, g_3, rfl, rfl, (Or.inr (Or.inr (Or.inr (f_5.resolve_left (by omega))))), by rw [ht]; exact hP, va_K.moved hW.alike hK, hD⟩, hS.F ht⟩) hS.2.2 d_Md_left_101
    · have c_82 : n_2 = 0 := (nI_eq (a := n_2) (b := 0) (by omega) (by omega)).mp c_82
      refine lv_sipush (v := (-2000)) hx hb d_Md_left_85 (by decide) ?_
      refine lv_goto (tgt := 101) hx hb d_Md_left_88 (by decide) ?_
      have hK := hK.sub (tys' := [(c1, .int), (c2, .int), (c5, .int)]) [0, 1, 2] rfl
      refine W.widen (k := 0) (n := 0) (by decide) (by decide) ?_
      exact W.iret (v := (-2000)) hx hb hr (fun t ht hW => ⟨⟨(-2000), (-2000), rfl, rfl, (Or.inr (Or.inl rfl)), by rw [ht]; exact hP, va_K.moved hW.alike hK, hD⟩, hS.F ht⟩) hS.2.2 d_Md_left_101
