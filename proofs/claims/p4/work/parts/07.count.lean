/-- all slots of a heap -/
def hsum (H : Heap) : Nat := (H.toList.map (fun c => c.slots.size)).sum
theorem hs_split {H0 H : Heap} (h : ∀ (a : Nat) (c : Cell), H0[a]? = some c → ∃ c' : Cell, H[a]? = some c' ∧ c'.slots.size = c.slots.size) (hs : H0.size ≤ H.size) : hsum H = hsum H0 + ((H.toList.drop H0.size).map (fun c => c.slots.size)).sum := by
  have h1 : H.toList.map (fun c => c.slots.size) = H0.toList.map (fun c => c.slots.size) ++ (H.toList.drop H0.size).map (fun c => c.slots.size) := by
    apply List.ext_getElem?
    intro i
    by_cases hi : i < H0.size
    · rw [List.getElem?_append_left (by simpa using hi)]
      obtain ⟨c', e1, e2⟩ := h i H0[i] (Array.getElem?_eq_getElem hi)
      rw [List.getElem?_map, List.getElem?_map, Array.getElem?_toList, Array.getElem?_toList, e1, Array.getElem?_eq_getElem hi]
      simp [e2]
    · rw [List.getElem?_append_right (by simpa using hi)]
      simp only [List.length_map, Array.length_toList, List.getElem?_map, List.getElem?_drop]
      rw [show H0.size + (i - H0.size) = i by omega]
  unfold hsum
  rw [h1, List.sum_append]
section Ct
variable {p : Program} {l : Launch} {e : Env} {R : Room} {s : State} {m : MethodId} {args : Array Value} {below : List Frame} {meth : Method} {c : Code} {H : Heap} {locs : List Loc} {cells slots : Nat} {Q : State → Prop} {g : JFrame}
/-- what the counters say of the heap -/
theorem ct_know (kk : H.size ≤ s.heap.size + cells → hsum H ≤ hsum s.heap + slots → W p l e R s m args below meth c H locs cells slots Q g) : W p l e R s m args below meth c H locs cells slots Q g := by
  intro T hT X
  obtain ⟨e1, h2, h3, h4, h5, h6⟩ := X.same
  have hh : (T.setVm s.vm).heap = H := hT
  rw [hh] at h2 h3 h5 h6
  refine kk h3 ?_ T hT X
  rw [hs_split (H0 := s.heap) (H := H) (fun a c hc => by obtain ⟨c', q1, q2, q3, q4⟩ := h6 a c hc; exact ⟨c', q1, q3⟩) h2]
  omega
/-- the counters by the heap -/
theorem ct_narrow {k n : Nat} (h1 : H.size ≤ s.heap.size + k) (h2 : hsum H ≤ hsum s.heap + n) (kk : W p l e R s m args below meth c H locs k n Q g) : W p l e R s m args below meth c H locs cells slots Q g := by
  intro T hT X
  obtain ⟨e1, q2, q3, q4, q5, q6⟩ := X.same
  have hh : (T.setVm s.vm).heap = H := hT
  rw [hh] at q2 q3 q4 q5 q6
  have hsp := hs_split (H0 := s.heap) (H := H) (fun a c hc => by obtain ⟨c', r1, r2, r3, r4⟩ := q6 a c hc; exact ⟨c', r1, r3⟩) q2
  refine kk T hT { X with same := ⟨e1, by rw [hh]; exact q2, by rw [hh]; exact h1, by rw [hh]; exact q4, by rw [hh]; omega, by rw [hh]; exact q6⟩ }
end Ct
/-- two arrays of ints are of one class -/
theorem va_int {D : va_G} {cl : List vw_C} {tys : List (ClassId × FieldType)} {U : State} (h : va_K D cl tys U) {i j : Nat} {x y : ClassId} (hi : tys[i]? = some (x, .int)) (hj : tys[j]? = some (y, .int)) : x = y := by
  have h1 : U.vm.findClass ("[" ++ (FieldType.int).toString) = some x := (h.2 i _ hi).2
  have h2 : U.vm.findClass ("[" ++ (FieldType.int).toString) = some y := (h.2 j _ hj).2
  exact Option.some.inj (h1.symm.trans h2)
/-- cells and slots that the rows and the watch have had, by their lengths -/
def gr_c (ls lc nn : Nat) : Nat := ls / 16 + lc / 128 + nn / 64
def gr_s (ls lc nn : Nat) : Nat := 4 * ls + 2 * lc + 2 * nn
