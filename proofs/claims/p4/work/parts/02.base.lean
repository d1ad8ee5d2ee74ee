/-! THE WORDS THAT EVERY METHOD TAKES: all words of the tables that speak of the tables alone -/
def bg_ok : Cond → Bool
  | .castable .. => true
  | .declares _ => true
  | .stringRef .. => true
  | .fieldLinkNest .. => true
  | w => goodWord w
def bg_W : List Cond := lw_tbl.filter bg_ok
theorem bg_in {w : Cond} (i : Nat) (h : lw_tbl[i]? = some w) (hg : bg_ok w = true) : w ∈ bg_W := List.mem_filter.mpr ⟨List.mem_of_getElem? h, hg⟩
theorem bg_sub : ∀ w ∈ bg_W, w ∈ lw_tbl := fun _ h => (List.mem_filter.mp h).1
theorem bg_pay {args : Array Value} {s : State} {w : Cond} (hw : bg_ok w = true) (h : w.before args s = true) : ∀ (a' : Array Value) (U : State), s.WarmedH U.vm → w.before a' U = true := by
  intro a' U hW
  cases w with
  | castable C T => exact va_Nw.use rfl (va_Nw.warmC hW (va_Nw.of rfl h))
  | declares x => exact va_Nw.use rfl (va_Nw.warmD hW (va_Nw.of rfl h))
  | fieldLinkNest a i b n d g => exact va_Nw.use rfl (va_Nw.warmF hW (va_Nw.of rfl h))
  | stringRef C i t =>
    have h1 : (Cond.stringRef C i t).before args (s.setVm U.vm) = true := Cond.stringRef_warmed hW h
    exact h1
  | _ => exact word_at hW (good_of_word hw) h
theorem bg_pays {args : Array Value} {s : State} {c : Cond} (ht : ∀ w ∈ bg_W, w.before args s = true) (hc : c ∈ bg_W) : ∀ w ∈ c :: bg_W, ∀ (a' : Array Value) (U : State), s.WarmedH U.vm → w.before a' U = true := by
  intro w hw
  have h : w ∈ bg_W := by
    rcases List.mem_cons.mp hw with rfl | h
    · exact hc
    · exact h
  exact bg_pay (List.mem_filter.mp h).2 (ht w h)
/-- a method's words: its code, and all the others -/
abbrev wq (y : MethodName) (b : ByteArray) (n : Nat) (r : Option FieldType) : List Cond := Cond.code y b n r :: bg_W
abbrev wh (y : MethodName) (b : ByteArray) (n : Nat) (r : Option FieldType) (h : List (Nat × Nat × Nat × Nat)) : List Cond := Cond.codeWith y b n r h :: bg_W
section CbCalls
variable {R : Room} {s : State} {args : Array Value} {own C : String} {index : Nat} {y : MethodName} {bytes : ByteArray} {maxL : Nat} {ret : Option FieldType} {rm : Room} {mc ms : Nat}
theorem cb_B (n : Nat) (ht : ∀ w ∈ bg_W, w.before args s = true) (hc : Cond.code y bytes maxL ret ∈ bg_W) (hi : Cond.initialized y.cls ∈ bg_W) (hl : Cond.methodLink own index y ∈ bg_W) (hrc : rm.cells = mc) (hrs : rm.slots = ms)
    (hd : y.cls ≠ "java/lang/invoke/MethodHandle" ∧ y.cls ≠ "java/lang/invoke/VarHandle" ∧ (parseMethodDescriptor y.desc).map (fun d => d.parameters.length) = some n) (hR : rm.frames + 1 ≤ R.frames ∧ 8 + (maxL + 11) + rm.locals ≤ R.locals) :
    CallB R s args own index y bytes maxL ret (wq y bytes maxL ret) rm mc ms n := by
  refine ⟨hrc, hrs, hR.1, hR.2, bg_pays ht hc, List.mem_cons_self, ht _ hc, ht _ hi, ⟨hd.1, hd.2.1⟩, fun sig h => ?_, ht _ hl⟩
  have h2 := hd.2.2
  rw [h] at h2
  exact (Option.some.inj h2).symm
theorem cb_I (n : Nat) (ht : ∀ w ∈ bg_W, w.before args s = true) (hc : Cond.code y bytes maxL none ∈ bg_W) (hi : Cond.initialized y.cls ∈ bg_W) (hl : Cond.methodLink own index y ∈ bg_W) (hin : Cond.instanceMethod y ∈ bg_W) (hrc : rm.cells = mc) (hrs : rm.slots = ms) (hy1 : y.name = "<init>")
    (hd : y.cls ≠ "java/lang/invoke/MethodHandle" ∧ y.cls ≠ "java/lang/invoke/VarHandle" ∧ (parseMethodDescriptor y.desc).map (fun d => d.parameters.length) = some n) (hR : rm.frames + 1 ≤ R.frames ∧ 8 + (maxL + 11) + rm.locals ≤ R.locals) :
    CallB R s args own index y bytes maxL none (wq y bytes maxL none) rm mc ms n ∧ y.name = "<init>" ∧ (Cond.instanceMethod y).before args s = true := ⟨cb_B n ht hc hi hl hrc hrs hd hR, hy1, ht _ hin⟩
theorem cb_V (n : Nat) (ht : ∀ w ∈ bg_W, w.before args s = true) (hc : Cond.code y bytes maxL ret ∈ bg_W) (hi : Cond.initialized y.cls ∈ bg_W) (hl : Cond.methodLink own index y ∈ bg_W) (hin : Cond.instanceMethod y ∈ bg_W) (hse : Cond.selects C y y ∈ bg_W) (hrc : rm.cells = mc) (hrs : rm.slots = ms)
    (hd : y.cls ≠ "java/lang/invoke/MethodHandle" ∧ y.cls ≠ "java/lang/invoke/VarHandle" ∧ (parseMethodDescriptor y.desc).map (fun d => d.parameters.length) = some n) (hR : rm.frames + 1 ≤ R.frames ∧ 8 + (maxL + 11) + rm.locals ≤ R.locals) :
    CallW R s args own C index y bytes maxL ret (wq y bytes maxL ret) rm mc ms n := ⟨cb_B n ht hc hi hl hrc hrs hd hR, ht _ hin, ht _ hse⟩
theorem cb_S (n : Nat) (ht : ∀ w ∈ bg_W, w.before args s = true) (hc : Cond.code y bytes maxL ret ∈ bg_W) (hi : Cond.initialized y.cls ∈ bg_W) (hl : Cond.methodLink own index y ∈ bg_W) (hst : Cond.static y ∈ bg_W) (hrc : rm.cells = mc) (hrs : rm.slots = ms)
    (hd : y.cls ≠ "java/lang/invoke/MethodHandle" ∧ y.cls ≠ "java/lang/invoke/VarHandle" ∧ (parseMethodDescriptor y.desc).map (fun d => d.parameters.length) = some n) (hR : rm.frames + 1 ≤ R.frames ∧ 8 + (maxL + 11) + rm.locals ≤ R.locals) :
    CallB R s args own index y bytes maxL ret (wq y bytes maxL ret) rm mc ms n ∧ (Cond.static y).before args s = true := ⟨cb_B n ht hc hi hl hrc hrs hd hR, ht _ hst⟩
end CbCalls
