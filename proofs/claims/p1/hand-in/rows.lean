section
-- ===== PART A: goes FIRST, ahead of the names: the tables' words, and 'selects' of the private methods out of them =====
/-- a private method of a class that the tables say can be made, by its rows of tables_1 -/
def lw_okq (q : MethodName × Nat) : Prop := (q.1.cls ≠ "java/lang/invoke/MethodHandle" ∧ q.1.cls ≠ "java/lang/invoke/VarHandle") ∧ Cond.instantiable q.1.cls q.2 ∈ tables_1 ∧ Cond.privateMethod q.1 ∈ tables_1 ∧ Cond.instanceMethod q.1 ∈ tables_1
theorem lw_p0 : lw_okq (⟨"ClauseSearch$Trail", "shrink", "(I)V"⟩, 9) := ⟨⟨by decide +kernel, by decide +kernel⟩, List.mem_of_getElem? (i := 63) (by decide +kernel), List.mem_of_getElem? (i := 265) (by decide +kernel), List.mem_of_getElem? (i := 266) (by decide +kernel)⟩
theorem lw_p1 : lw_okq (⟨"ClauseSearch$Search", "putFacts", "()V"⟩, 12) := ⟨⟨by decide +kernel, by decide +kernel⟩, List.mem_of_getElem? (i := 61) (by decide +kernel), List.mem_of_getElem? (i := 272) (by decide +kernel), List.mem_of_getElem? (i := 273) (by decide +kernel)⟩
theorem lw_p2 : lw_okq (⟨"ClauseSearch$Watch", "visit", "(I)I"⟩, 4) := ⟨⟨by decide +kernel, by decide +kernel⟩, List.mem_of_getElem? (i := 115) (by decide +kernel), List.mem_of_getElem? (i := 285) (by decide +kernel), List.mem_of_getElem? (i := 286) (by decide +kernel)⟩
theorem lw_p3 : lw_okq (⟨"ClauseSearch$Watch", "hang", "(II)V"⟩, 4) := ⟨⟨by decide +kernel, by decide +kernel⟩, List.mem_of_getElem? (i := 115) (by decide +kernel), List.mem_of_getElem? (i := 289) (by decide +kernel), List.mem_of_getElem? (i := 290) (by decide +kernel)⟩
theorem lw_p4 : lw_okq (⟨"ClauseSearch$Watch", "waitsElsewhere", "(I)Z"⟩, 4) := ⟨⟨by decide +kernel, by decide +kernel⟩, List.mem_of_getElem? (i := 115) (by decide +kernel), List.mem_of_getElem? (i := 293) (by decide +kernel), List.mem_of_getElem? (i := 294) (by decide +kernel)⟩
theorem lw_p5 : lw_okq (⟨"ClauseSearch$Watch", "otherCode", "(I)I"⟩, 4) := ⟨⟨by decide +kernel, by decide +kernel⟩, List.mem_of_getElem? (i := 115) (by decide +kernel), List.mem_of_getElem? (i := 297) (by decide +kernel), List.mem_of_getElem? (i := 298) (by decide +kernel)⟩
theorem lw_p6 : lw_okq (⟨"ClauseSearch$Watch", "force", "(I)I"⟩, 4) := ⟨⟨by decide +kernel, by decide +kernel⟩, List.mem_of_getElem? (i := 115) (by decide +kernel), List.mem_of_getElem? (i := 301) (by decide +kernel), List.mem_of_getElem? (i := 302) (by decide +kernel)⟩
theorem lw_p7 : lw_okq (⟨"ClauseSearch$Search", "goBackWiser", "(I)V"⟩, 12) := ⟨⟨by decide +kernel, by decide +kernel⟩, List.mem_of_getElem? (i := 61) (by decide +kernel), List.mem_of_getElem? (i := 306) (by decide +kernel), List.mem_of_getElem? (i := 307) (by decide +kernel)⟩
theorem lw_p8 : lw_okq (⟨"ClauseSearch$Lesson", "join", "(I)V"⟩, 8) := ⟨⟨by decide +kernel, by decide +kernel⟩, List.mem_of_getElem? (i := 137) (by decide +kernel), List.mem_of_getElem? (i := 314) (by decide +kernel), List.mem_of_getElem? (i := 315) (by decide +kernel)⟩
theorem lw_p9 : lw_okq (⟨"ClauseSearch$Lesson", "finish", "()V"⟩, 8) := ⟨⟨by decide +kernel, by decide +kernel⟩, List.mem_of_getElem? (i := 137) (by decide +kernel), List.mem_of_getElem? (i := 318) (by decide +kernel), List.mem_of_getElem? (i := 319) (by decide +kernel)⟩
theorem lw_p10 : lw_okq (⟨"ClauseSearch$Check", "onlyCodeLeft", "(I)I"⟩, 2) := ⟨⟨by decide +kernel, by decide +kernel⟩, List.mem_of_getElem? (i := 175) (by decide +kernel), List.mem_of_getElem? (i := 328) (by decide +kernel), List.mem_of_getElem? (i := 329) (by decide +kernel)⟩
theorem lw_p11 : lw_okq (⟨"ClauseSearch$Search", "forgetOld", "()V"⟩, 12) := ⟨⟨by decide +kernel, by decide +kernel⟩, List.mem_of_getElem? (i := 61) (by decide +kernel), List.mem_of_getElem? (i := 340) (by decide +kernel), List.mem_of_getElem? (i := 341) (by decide +kernel)⟩
theorem lw_p12 : lw_okq (⟨"ClauseSearch$Search", "forcedBy", "(I)I"⟩, 12) := ⟨⟨by decide +kernel, by decide +kernel⟩, List.mem_of_getElem? (i := 61) (by decide +kernel), List.mem_of_getElem? (i := 344) (by decide +kernel), List.mem_of_getElem? (i := 345) (by decide +kernel)⟩
theorem lw_p13 : lw_okq (⟨"ClauseSearch$Search", "keep", "([III)I"⟩, 12) := ⟨⟨by decide +kernel, by decide +kernel⟩, List.mem_of_getElem? (i := 61) (by decide +kernel), List.mem_of_getElem? (i := 375) (by decide +kernel), List.mem_of_getElem? (i := 376) (by decide +kernel)⟩
theorem lw_p14 : lw_okq (⟨"ClauseSearch$Search", "codeToTry", "(I[II)I"⟩, 12) := ⟨⟨by decide +kernel, by decide +kernel⟩, List.mem_of_getElem? (i := 61) (by decide +kernel), List.mem_of_getElem? (i := 385) (by decide +kernel), List.mem_of_getElem? (i := 386) (by decide +kernel)⟩
theorem lw_p15 : lw_okq (⟨"ClauseSearch", "takeWay", "()Z"⟩, 8) := ⟨⟨by decide +kernel, by decide +kernel⟩, List.mem_of_getElem? (i := 19) (by decide +kernel), List.mem_of_getElem? (i := 398) (by decide +kernel), List.mem_of_getElem? (i := 399) (by decide +kernel)⟩
def lw_privs_1 : List (MethodName × Nat) := [(⟨"ClauseSearch$Trail", "shrink", "(I)V"⟩, 9), (⟨"ClauseSearch$Search", "putFacts", "()V"⟩, 12), (⟨"ClauseSearch$Watch", "visit", "(I)I"⟩, 4), (⟨"ClauseSearch$Watch", "hang", "(II)V"⟩, 4), (⟨"ClauseSearch$Watch", "waitsElsewhere", "(I)Z"⟩, 4), (⟨"ClauseSearch$Watch", "otherCode", "(I)I"⟩, 4), (⟨"ClauseSearch$Watch", "force", "(I)I"⟩, 4), (⟨"ClauseSearch$Search", "goBackWiser", "(I)V"⟩, 12), (⟨"ClauseSearch$Lesson", "join", "(I)V"⟩, 8), (⟨"ClauseSearch$Lesson", "finish", "()V"⟩, 8), (⟨"ClauseSearch$Check", "onlyCodeLeft", "(I)I"⟩, 2), (⟨"ClauseSearch$Search", "forgetOld", "()V"⟩, 12), (⟨"ClauseSearch$Search", "forcedBy", "(I)I"⟩, 12), (⟨"ClauseSearch$Search", "keep", "([III)I"⟩, 12), (⟨"ClauseSearch$Search", "codeToTry", "(I[II)I"⟩, 12), (⟨"ClauseSearch", "takeWay", "()Z"⟩, 8)]
theorem lw_r1 : ∀ q ∈ lw_privs_1, lw_okq q := List.forall_mem_cons.mpr ⟨lw_p0, List.forall_mem_cons.mpr ⟨lw_p1, List.forall_mem_cons.mpr ⟨lw_p2, List.forall_mem_cons.mpr ⟨lw_p3, List.forall_mem_cons.mpr ⟨lw_p4, List.forall_mem_cons.mpr ⟨lw_p5, List.forall_mem_cons.mpr ⟨lw_p6, List.forall_mem_cons.mpr ⟨lw_p7, List.forall_mem_cons.mpr ⟨lw_p8, List.forall_mem_cons.mpr ⟨lw_p9, List.forall_mem_cons.mpr ⟨lw_p10, List.forall_mem_cons.mpr ⟨lw_p11, List.forall_mem_cons.mpr ⟨lw_p12, List.forall_mem_cons.mpr ⟨lw_p13, List.forall_mem_cons.mpr ⟨lw_p14, List.forall_mem_cons.mpr ⟨lw_p15, fun _ h => absurd h List.not_mem_nil⟩⟩⟩⟩⟩⟩⟩⟩⟩⟩⟩⟩⟩⟩⟩⟩
theorem lw_p16 : lw_okq (⟨"ClauseSearch", "wayIsGood", "()Z"⟩, 8) := ⟨⟨by decide +kernel, by decide +kernel⟩, List.mem_of_getElem? (i := 19) (by decide +kernel), List.mem_of_getElem? (i := 406) (by decide +kernel), List.mem_of_getElem? (i := 407) (by decide +kernel)⟩
theorem lw_p17 : lw_okq (⟨"ClauseSearch", "isTrue", "(I)Z"⟩, 8) := ⟨⟨by decide +kernel, by decide +kernel⟩, List.mem_of_getElem? (i := 19) (by decide +kernel), List.mem_of_getElem? (i := 410) (by decide +kernel), List.mem_of_getElem? (i := 411) (by decide +kernel)⟩
theorem lw_p18 : lw_okq (⟨"ClauseSearch", "hasTrue", "(I)Z"⟩, 8) := ⟨⟨by decide +kernel, by decide +kernel⟩, List.mem_of_getElem? (i := 19) (by decide +kernel), List.mem_of_getElem? (i := 414) (by decide +kernel), List.mem_of_getElem? (i := 415) (by decide +kernel)⟩
theorem lw_p19 : lw_okq (⟨"java/lang/Throwable", "fillInStackTrace", "(I)Ljava/lang/Throwable;"⟩, 6) := ⟨⟨by decide +kernel, by decide +kernel⟩, List.mem_of_getElem? (i := 465) (by decide +kernel), List.mem_of_getElem? (i := 463) (by decide +kernel), List.mem_of_getElem? (i := 464) (by decide +kernel)⟩
theorem lw_p20 : lw_okq (⟨"ClauseSearch$Search", "has", "([III)Z"⟩, 12) := ⟨⟨by decide +kernel, by decide +kernel⟩, List.mem_of_getElem? (i := 61) (by decide +kernel), List.mem_of_getElem? (i := 549) (by decide +kernel), List.mem_of_getElem? (i := 550) (by decide +kernel)⟩
theorem lw_p21 : lw_okq (⟨"ClauseSearchModel", "good", "(ZI)Z"⟩, 15) := ⟨⟨by decide +kernel, by decide +kernel⟩, List.mem_of_getElem? (i := 570) (by decide +kernel), List.mem_of_getElem? (i := 631) (by decide +kernel), List.mem_of_getElem? (i := 632) (by decide +kernel)⟩
theorem lw_p22 : lw_okq (⟨"ClauseSearchModel", "search", "()Z"⟩, 15) := ⟨⟨by decide +kernel, by decide +kernel⟩, List.mem_of_getElem? (i := 570) (by decide +kernel), List.mem_of_getElem? (i := 647) (by decide +kernel), List.mem_of_getElem? (i := 648) (by decide +kernel)⟩
theorem lw_p23 : lw_okq (⟨"ClauseSearchModel", "truth", "(I)I"⟩, 15) := ⟨⟨by decide +kernel, by decide +kernel⟩, List.mem_of_getElem? (i := 570) (by decide +kernel), List.mem_of_getElem? (i := 651) (by decide +kernel), List.mem_of_getElem? (i := 652) (by decide +kernel)⟩
theorem lw_p24 : lw_okq (⟨"ClauseSearchModel", "set", "(I)V"⟩, 15) := ⟨⟨by decide +kernel, by decide +kernel⟩, List.mem_of_getElem? (i := 570) (by decide +kernel), List.mem_of_getElem? (i := 655) (by decide +kernel), List.mem_of_getElem? (i := 656) (by decide +kernel)⟩
theorem lw_p25 : lw_okq (⟨"ClauseSearchModel", "follow", "()Z"⟩, 15) := ⟨⟨by decide +kernel, by decide +kernel⟩, List.mem_of_getElem? (i := 570) (by decide +kernel), List.mem_of_getElem? (i := 659) (by decide +kernel), List.mem_of_getElem? (i := 660) (by decide +kernel)⟩
theorem lw_p26 : lw_okq (⟨"ClauseSearchModel", "left", "(I)I"⟩, 15) := ⟨⟨by decide +kernel, by decide +kernel⟩, List.mem_of_getElem? (i := 570) (by decide +kernel), List.mem_of_getElem? (i := 663) (by decide +kernel), List.mem_of_getElem? (i := 664) (by decide +kernel)⟩
theorem lw_p27 : lw_okq (⟨"ClauseSearchModel", "back", "(I)V"⟩, 15) := ⟨⟨by decide +kernel, by decide +kernel⟩, List.mem_of_getElem? (i := 570) (by decide +kernel), List.mem_of_getElem? (i := 667) (by decide +kernel), List.mem_of_getElem? (i := 668) (by decide +kernel)⟩
def lw_privs_2 : List (MethodName × Nat) := [(⟨"ClauseSearch", "wayIsGood", "()Z"⟩, 8), (⟨"ClauseSearch", "isTrue", "(I)Z"⟩, 8), (⟨"ClauseSearch", "hasTrue", "(I)Z"⟩, 8), (⟨"java/lang/Throwable", "fillInStackTrace", "(I)Ljava/lang/Throwable;"⟩, 6), (⟨"ClauseSearch$Search", "has", "([III)Z"⟩, 12), (⟨"ClauseSearchModel", "good", "(ZI)Z"⟩, 15), (⟨"ClauseSearchModel", "search", "()Z"⟩, 15), (⟨"ClauseSearchModel", "truth", "(I)I"⟩, 15), (⟨"ClauseSearchModel", "set", "(I)V"⟩, 15), (⟨"ClauseSearchModel", "follow", "()Z"⟩, 15), (⟨"ClauseSearchModel", "left", "(I)I"⟩, 15), (⟨"ClauseSearchModel", "back", "(I)V"⟩, 15)]
theorem lw_r2 : ∀ q ∈ lw_privs_2, lw_okq q := List.forall_mem_cons.mpr ⟨lw_p16, List.forall_mem_cons.mpr ⟨lw_p17, List.forall_mem_cons.mpr ⟨lw_p18, List.forall_mem_cons.mpr ⟨lw_p19, List.forall_mem_cons.mpr ⟨lw_p20, List.forall_mem_cons.mpr ⟨lw_p21, List.forall_mem_cons.mpr ⟨lw_p22, List.forall_mem_cons.mpr ⟨lw_p23, List.forall_mem_cons.mpr ⟨lw_p24, List.forall_mem_cons.mpr ⟨lw_p25, List.forall_mem_cons.mpr ⟨lw_p26, List.forall_mem_cons.mpr ⟨lw_p27, fun _ h => absurd h List.not_mem_nil⟩⟩⟩⟩⟩⟩⟩⟩⟩⟩⟩⟩
def lw_privs : List (MethodName × Nat) := lw_privs_1 ++ (lw_privs_2)
def lw_tbl : List Cond := k2_sels lw_privs ++ tables_1
theorem lw_privs_ok : ∀ q ∈ lw_privs, lw_okq q := by
  show ∀ q ∈ lw_privs_1 ++ (lw_privs_2), lw_okq q
  exact List.forall_mem_append.mpr ⟨lw_r1, lw_r2⟩
end
section
/-! THE WORDS THAT EVERY METHOD TAKES: all words of the tables that speak of the tables alone -/
def bg_ok : Cond → Bool
  | .castable .. => true
  | .declares _ => true
  | .stringRef .. => true
  | .fieldLinkNest .. => true
  | w => goodWord w
def bg_W : List Cond := lw_tbl.filter bg_ok
theorem bg_in {w : Cond} (i : Nat) (h : lw_tbl[i]? = some w) (hg : bg_ok w = true) : w ∈ bg_W := List.mem_filter.mpr ⟨List.mem_of_getElem? h, hg⟩
theorem bg_sub : ∀ w ∈ bg_W, w ∈ lw_tbl := fun _ h => (List.mem_filter.mp h).1
theorem bg_pay {args : Array Value} {s : State} {w : Cond} (hw : bg_ok w = true) (h : w.before args s = true) : ∀ (a' : Array Value) (U : State), s.WarmedH U.vm → w.before a' U = true := by
  intro a' U hW
  cases w with
  | castable C T => exact va_Nw.use rfl (va_Nw.warmC hW (va_Nw.of rfl h))
  | declares x => exact va_Nw.use rfl (va_Nw.warmD hW (va_Nw.of rfl h))
  | fieldLinkNest a i b n d g => exact va_Nw.use rfl (va_Nw.warmF hW (va_Nw.of rfl h))
  | stringRef C i t =>
    have h1 : (Cond.stringRef C i t).before args (s.setVm U.vm) = true := Cond.stringRef_warmed hW h
    exact h1
  | _ => exact word_at hW (good_of_word hw) h
theorem bg_pays {args : Array Value} {s : State} {c : Cond} (ht : ∀ w ∈ bg_W, w.before args s = true) (hc : c ∈ bg_W) : ∀ w ∈ c :: bg_W, ∀ (a' : Array Value) (U : State), s.WarmedH U.vm → w.before a' U = true := by
  intro w hw
  have h : w ∈ bg_W := by
    rcases List.mem_cons.mp hw with rfl | h
    · exact hc
    · exact h
  exact bg_pay (List.mem_filter.mp h).2 (ht w h)
/-- a method's words: its code, and all the others -/
abbrev wq (y : MethodName) (b : ByteArray) (n : Nat) (r : Option FieldType) : List Cond := Cond.code y b n r :: bg_W
abbrev wh (y : MethodName) (b : ByteArray) (n : Nat) (r : Option FieldType) (h : List (Nat × Nat × Nat × Nat)) : List Cond := Cond.codeWith y b n r h :: bg_W
section CbCalls
variable {R : Room} {s : State} {args : Array Value} {own C : String} {index : Nat} {y : MethodName} {bytes : ByteArray} {maxL : Nat} {ret : Option FieldType} {rm : Room} {mc ms : Nat}
theorem cb_B (n : Nat) (ht : ∀ w ∈ bg_W, w.before args s = true) (hc : Cond.code y bytes maxL ret ∈ bg_W) (hi : Cond.initialized y.cls ∈ bg_W) (hl : Cond.methodLink own index y ∈ bg_W) (hrc : rm.cells = mc) (hrs : rm.slots = ms)
    (hd : y.cls ≠ "java/lang/invoke/MethodHandle" ∧ y.cls ≠ "java/lang/invoke/VarHandle" ∧ (parseMethodDescriptor y.desc).map (fun d => d.parameters.length) = some n) (hR : rm.frames + 1 ≤ R.frames ∧ 8 + (maxL + 11) + rm.locals ≤ R.locals) :
    CallB R s args own index y bytes maxL ret (wq y bytes maxL ret) rm mc ms n := by
  refine ⟨hrc, hrs, hR.1, hR.2, bg_pays ht hc, List.mem_cons_self, ht _ hc, ht _ hi, ⟨hd.1, hd.2.1⟩, fun sig h => ?_, ht _ hl⟩
  have h2 := hd.2.2
  rw [h] at h2
  exact (Option.some.inj h2).symm
theorem cb_I (n : Nat) (ht : ∀ w ∈ bg_W, w.before args s = true) (hc : Cond.code y bytes maxL none ∈ bg_W) (hi : Cond.initialized y.cls ∈ bg_W) (hl : Cond.methodLink own index y ∈ bg_W) (hin : Cond.instanceMethod y ∈ bg_W) (hrc : rm.cells = mc) (hrs : rm.slots = ms) (hy1 : y.name = "<init>")
    (hd : y.cls ≠ "java/lang/invoke/MethodHandle" ∧ y.cls ≠ "java/lang/invoke/VarHandle" ∧ (parseMethodDescriptor y.desc).map (fun d => d.parameters.length) = some n) (hR : rm.frames + 1 ≤ R.frames ∧ 8 + (maxL + 11) + rm.locals ≤ R.locals) :
    CallB R s args own index y bytes maxL none (wq y bytes maxL none) rm mc ms n ∧ y.name = "<init>" ∧ (Cond.instanceMethod y).before args s = true := ⟨cb_B n ht hc hi hl hrc hrs hd hR, hy1, ht _ hin⟩
theorem cb_V (n : Nat) (ht : ∀ w ∈ bg_W, w.before args s = true) (hc : Cond.code y bytes maxL ret ∈ bg_W) (hi : Cond.initialized y.cls ∈ bg_W) (hl : Cond.methodLink own index y ∈ bg_W) (hin : Cond.instanceMethod y ∈ bg_W) (hse : Cond.selects C y y ∈ bg_W) (hrc : rm.cells = mc) (hrs : rm.slots = ms)
    (hd : y.cls ≠ "java/lang/invoke/MethodHandle" ∧ y.cls ≠ "java/lang/invoke/VarHandle" ∧ (parseMethodDescriptor y.desc).map (fun d => d.parameters.length) = some n) (hR : rm.frames + 1 ≤ R.frames ∧ 8 + (maxL + 11) + rm.locals ≤ R.locals) :
    CallW R s args own C index y bytes maxL ret (wq y bytes maxL ret) rm mc ms n := ⟨cb_B n ht hc hi hl hrc hrs hd hR, ht _ hin, ht _ hse⟩
theorem cb_S (n : Nat) (ht : ∀ w ∈ bg_W, w.before args s = true) (hc : Cond.code y bytes maxL ret ∈ bg_W) (hi : Cond.initialized y.cls ∈ bg_W) (hl : Cond.methodLink own index y ∈ bg_W) (hst : Cond.static y ∈ bg_W) (hrc : rm.cells = mc) (hrs : rm.slots = ms)
    (hd : y.cls ≠ "java/lang/invoke/MethodHandle" ∧ y.cls ≠ "java/lang/invoke/VarHandle" ∧ (parseMethodDescriptor y.desc).map (fun d => d.parameters.length) = some n) (hR : rm.frames + 1 ≤ R.frames ∧ 8 + (maxL + 11) + rm.locals ≤ R.locals) :
    CallB R s args own index y bytes maxL ret (wq y bytes maxL ret) rm mc ms n ∧ (Cond.static y).before args s = true := ⟨cb_B n ht hc hi hl hrc hrs hd hR, ht _ hst⟩
end CbCalls
end
section
/-! METHODS THAT THROW, AND METHODS THAT CATCH: the contract of a method that ends by a throw, the row of 'throw new X(text)', the call of such a method in a method with handlers, the handler's search. -/
/-- the contract of a method that throws: nothing that was there has changed -/
def tw_Met (l : Launch) (y : MethodName) (ws : List Cond) (rm : Room) (Pc : Array Value → State → Prop) (Qc : Array Value → State → Addr → State → Prop) (mc ms : Nat) : Prop :=
  MetFree l y (headSpec ws rm) Pc (fun _ _ _ _ _ => True) (fun a st o t => ∃ x : Addr, o = .threw x ∧ Qc a st x t ∧ st.WarmedH t.vm ∧ st.sameButNew ({ t with vm := st.vm } : State) [] mc ms)
/-- what a throw ends in -/
def tw_MQ (below : List Frame) (Qc : Array Value → State → Addr → State → Prop) (a : Array Value) (s : State) (mc ms : Nat) : State → Prop := fun t =>
  ∃ x : Addr, t.status = .running ∧ Ended t below (.threw x) ∧ Qc a s x t ∧ s.WarmedH t.vm ∧ s.sameButNew ({ t with vm := s.vm } : State) [] mc ms
/-- the object that was thrown: a new one, of the class X -/
def tw_Q (X : String) : Array Value → State → Addr → State → Prop := fun _ st x t => st.heap.size ≤ x ∧ ∃ ce : Cell, t.heap[x]? = some ce ∧ ce.vm.isStatics = false ∧ st.vm.findClass X = some ce.cls
theorem tw_ofW {l : Launch} {y : MethodName} {ws ws' : List Cond} {rm : Room} {Pc : Array Value → State → Prop} {Qc : Array Value → State → Addr → State → Prop} {mc ms : Nat} {cc : ByteArray} {maxL : Nat} {ret : Option FieldType}
    (hy : plainName y.cls = true) (hw : ws = Cond.code y cc maxL ret :: ws')
    (body : ∀ p e s m args below meth c s₁, BodyLoose p l y (headSpec ws rm) cc maxL ret e s m args below meth c s₁ → c.maxLocals = maxL → Pc args s →
      W p l e (headSpec ws rm).room s m args below meth c s.heap [] 0 0 (tw_MQ below Qc args s mc ms) (entryFrame m args maxL)) : tw_Met l y ws rm Pc Qc mc ms := by
  refine MetFree.of_bodyS (code := cc) (maxLocals := maxL) (ret := ret) hy ?_ ?_
  · intro args s m h hn
    obtain ⟨meth, c, h1, h2, h3, h4, h5, h6, -, -⟩ := Cond.code_spec hn (atoms_spec (ws := ws) h _ (by rw [hw]; exact List.mem_cons_self))
    exact ⟨meth, c, h1, h2, h3, h4, h5, h6⟩
  · intro p e s m args below meth c s₁ B hml hP _
    have hh0 : s₁.heap = s.heap := by rw [B.state]; rfl
    obtain ⟨t, a1, x, b1, b2, b3⟩ := body p e s m args below meth c s₁ B hml hP s₁ hh0 (Stand.of_body B)
    exact ⟨t, .threw x, a1, b1, b2, x, rfl, b3⟩
section TwRows
variable {p : Program} {l : Launch} {e : Env} {R : Room} {s : State} {m : MethodId} {args : Array Value} {below : List Frame} {meth : Method} {c : Code} {H : Heap} {locs : List Loc} {cells slots : Nat} {Q : State → Prop}
/-- 'throw new X(text)', from the constructor's call on; the object is the cell a, as 'new' made it -/
theorem tw_throw {cc : ByteArray} {own X : String} {names : List String} {ic pc : Nat} {ls : Array Slot} {a q : Nat} {cX : ClassId} {kX : Class} (hx : p.tables.exec = Jvm.exec) (hb : c.code = cc) (hfl : l.flags = pinnedFlags ++ [noTraceFlag])
    (hown : s.vm.findClass own = some m.cls) (hcls : Bundle.fit X = true) (hnames : ∀ n ∈ names, Bundle.fit n = true) (hat : ∀ w ∈ Bundle.ownAtoms own ic X names, w.before args s = true)
    (hfX : s.vm.findClass X = some cX) (hkX : s.vm.classes[cX]? = some kX) (hcell : H[a]? = some (freshCell cX kX)) (hnew : s.heap.size ≤ a) (hsz : ls.size = c.maxLocals)
    (hd6 : decode cc pc = .ok (.invokespecial ic, 3)) (hd9 : decode cc (pc + 3) = .ok (.athrow, 1)) (hout : c.exceptionTable.isEmpty = true)
    (hfr : names.length + 3 < R.frames) (hlo : 1 + (13 * (names.length + 1) + 42) ≤ R.locals) (hlocks : meth.locks = false) :
    W p l e R s m args below meth c H [] cells slots (tw_MQ below (tw_Q X) args s cells slots) (F0 m pc ls [.ref q, .ref a, .ref a]) := by
  intro T hT S
  have hno : ∀ x ∈ c.exceptionTable.toList, covers x (pc + 3) = false := by
    intro x hx'
    have h0 : c.exceptionTable.toList = [] := by simpa using hout
    rw [h0] at hx'
    cases hx'
  obtain ⟨U, st, hrun, hend, hW, hsame, ce, hce, hoc⟩ := S.ctorThrowS hx (Launch.traces_off hfl S.admits) hown hcls hnames hat (fun x hx' => by cases hx') hfX hkX (by rw [hT]; exact hcell) hnew (msg := .ref q) rfl
    (g := F0 m pc ls [.ref q, .ref a, .ref a]) rfl hsz rfl rfl (rest := []) rfl (by rw [hb]; exact hd6) (by rw [hb]; exact hd9) hno hfr (by simpa [JFrame.monitorRoom, Value.category] using hlo) hlocks
  exact ⟨U, st, a, hrun, hend, ⟨hnew, ce, hce, by rw [hoc.vm]; rfl, hoc.cls⟩, hW, hsame⟩
/-- the call of a method that throws: the note lies over the caller's frame -/
theorem tw_runV {y : MethodName} {bytes cc : ByteArray} {maxL nL mc ms n index : Nat} {ret : Option FieldType} {ws : List Cond} {rm : Room} {Pc : Array Value → State → Prop} {Qc : Array Value → State → Addr → State → Prop} {Ts : List Cond} {own C : String} {b : Addr} {As rest : List Value} {g : JFrame}
    (S : CallFix p m c cc nL s args Ts own) (hM : tw_Met l y ws rm Pc Qc mc ms) (cw : CallW R s args own C index y bytes maxL ret ws rm mc ms n) (hp : PreV s H C b Pc As)
    (hg : g.method = m) (hn : As.length = n) (hsize : g.locals.size = nL) (hstack : g.stack = As.reverse ++ .ref b :: rest) (hW : 2 * g.monitorRoom + (rest.map fun v => v.category).sum ≤ 8) (hdg : decode cc g.pc = .ok (.invokevirtual index, 3)) (hf : cells + mc ≤ R.cells ∧ slots + ms ≤ R.slots)
    {T : State} (hT : T.heap = H) (X : Stand p l e R s m args below meth c T locs cells slots) :
    ∃ (x : Addr) (st₀ t T' : State), st₀.heap = H ∧ s.WarmedH st₀.vm ∧ Stand p l e R s m args below meth c T' locs (cells + mc) (slots + ms) ∧ t.heap = T'.heap ∧ t.vm = T'.vm ∧ H.size ≤ T'.heap.size ∧ (∀ q : Nat, q < H.size → T'.heap[q]? = H[q]?) ∧ Qc (Value.ref b :: As).toArray st₀ x t ∧
      Steps p.tables e below (T.setTop g) ((T'.setTop { g with stack := rest }).pushFrame (.throwing x)) := by
  obtain ⟨⟨hrc, hrs, hfr, hlo, hws, hcw, hcode, hini, hy, hlen, hl⟩, hin, hse⟩ := cw
  obtain ⟨hx, hb, hml, ho, -⟩ := S
  obtain ⟨hbl, ⟨cellB, hcB, hoB, hclB⟩, hPc⟩ := hp
  obtain ⟨mk, methM, hnamed, hmethM, hstM, habM⟩ := Cond.instanceMethod_spec hin
  obtain ⟨methM', cM, hmethM', hcM, -, hlM, -, -, -, hsigM⟩ := Cond.code_spec hnamed hcode
  cases hmethM.symm.trans hmethM'
  obtain ⟨c2, r2, m2, q1, q2, q3, q4, kP, hkP, hkPi⟩ := Cond.selects_spec hse
  cases hclB.symm.trans q1
  cases (State.methodFound?_of_named hnamed hy).symm.trans q2
  cases hnamed.symm.trans q3
  have hselP : selectMethod e.platform s.vm cellB.cls mk = .method mk := by rw [Launch.admits_selectMethod X.admits]; exact q4
  have hdg' : decode c.code g.pc = .ok (.invokevirtual index, 3) := by rw [hb]; exact hdg
  obtain ⟨vm₁, X₁, hstep₁⟩ := X.invokevirtual hx ho hl hnamed hmethM hstM hkP hkPi hy (a := b) (cell := cellB) (by rw [hT]; exact hcB) (fun z h => by rw [h] at hoB; cases hoB) hselP hmethM habM hkP hkPi (g := g) hg (argsL := As) (rest := rest) (hn.trans (hlen _ hsigM)) hstack hdg'
  have hAt : At (T.setVm vm₁) ({ g with stack := rest } : JFrame).method c below := by
    have h1 : ({ g with stack := rest } : JFrame).method = m := hg
    rw [h1]; exact X₁.here
  have hn1 := X₁.named hnamed
  obtain ⟨methY, cY, hmY, hcY, -, hlY, -, -, -, -⟩ := Cond.code_spec hn1 (hws _ hcw #[] _ X₁.warmed)
  obtain ⟨kY, hkY, -⟩ := className_of_methodNamed hn1
  have hiniY : (Cond.initialized y.cls).before #[] (T.setVm vm₁) = true := word_at X₁.warmed (Or.inl (by first | rfl | simp [Cond.onTables, Cond.keeps, Cond.steady])) hini
  have hinitY : kY.init = .initialized := Cond.initialized_spec (findClass_of_methodNamed hn1) hkY hiniY
  have happ : (headSpec ws rm).appliesLoose y e.platform ((T.setVm vm₁).calling { g with stack := rest } mk (Value.ref b :: As).toArray) = true :=
    Spec.appliesLoose_calling (g := { g with stack := rest }) hAt hdg' hn1 hkY hinitY
      (X₁.room_calling (g := { g with stack := rest }) (R' := (headSpec ws rm).room) (hsize.trans hml.symm) hmY hcY hfr (by
        have h1 : (headSpec ws rm).room.locals = rm.locals := rfl
        have h2 : 2 * ({ g with stack := rest } : JFrame).monitorRoom = 2 * g.monitorRoom := rfl
        rw [h1, h2, hlY]
        show 2 * g.monitorRoom + (rest.map fun v => v.category).sum + (maxL + 11) + rm.locals ≤ R.locals
        omega) (by show cells + rm.cells ≤ R.cells; rw [hrc]; exact hf.1) (by show slots + rm.slots ≤ R.slots; rw [hrs]; exact hf.2))
      (atoms_intro fun w hw => hws w hw _ _ X₁.warmed)
  obtain ⟨mid, hmid⟩ := hAt.above
  have hfr2 : ((T.setVm vm₁).setTop { g with stack := rest }).frames = (.java { g with stack := rest } :: mid) ++ below := by rw [State.frames_setTop' _ hAt.top, hmid]; rfl
  obtain ⟨o, s₂, hsteps, -, hend, hq⟩ := Steps.callFree hM p X.admits X.cas X.clock (acts := []) hfr2 happ (hbl _ _ _ _ (hPc (T.setVm vm₁) hT X₁.warmed)) trivial
  rw [State.frames_setTop' _ hAt.top, X₁.tail] at hend
  obtain ⟨x, rfl, hQ, hWt, hsame⟩ := hq
  obtain ⟨T', X2, -, hsame2, ht⟩ := X₁.outOfThrown (g := { g with stack := rest }) hg (mk := mk) (a := (Value.ref b :: As).toArray) (L := []) hend hWt hsame
  refine ⟨x, (T.setVm vm₁).calling { g with stack := rest } mk (Value.ref b :: As).toArray, s₂, T', hT, X₁.warmed, by simpa using X2, by rw [ht]; exact Stand.throwing_heap _ _ _, by rw [ht]; exact Stand.throwing_vm _ _ _, ?_, ?_, hQ, hstep₁ _ fun acts => by rw [doInvoke_state, ← ht]; exact hsteps⟩
  · rw [← hT]; exact hsame2.2.1
  · intro q hq'
    have hqT : q < T.heap.size := by rw [hT]; exact hq'
    obtain ⟨c', h1, h2, h3, h4⟩ := hsame2.2.2.2.2.2 q (T.heap[q]'hqT) (Array.getElem?_eq_getElem hqT)
    have h5 : c'.slots = (T.heap[q]'hqT).slots := Array.ext_getElem? fun i => h4 i (by simp)
    have h6 : c' = T.heap[q]'hqT := by rw [h2, h5]
    have h7 : T'.heap[q]? = some c' := h1
    rw [h7, h6, ← hT, Array.getElem?_eq_getElem hqT]
end TwRows
/-- what the search for a handler gives, whatever is asked afterwards, and the tables that it leaves -/
def tw_Fd (e : Env) (s : State) (f : JFrame) (a : Addr) (h : Handler) (vm' : Vm) : Prop :=
  ∀ (Q : Handler → Jvm.Pre) (E : Jvm.CtlPost) (d : Bool) (acts : List Action), Sem.wp (findHandler f a) Q E e d acts s ↔ Q h d acts (s.setVm vm')
section TwCatch
variable {e : Env} {s : State} {f : JFrame} {a : Addr}
/-- one entry that covers the place and names a class, linked or not yet: it takes the object, or the search goes on behind it -/
theorem tw_entry {Q : Handler → Jvm.Pre} {E : Jvm.CtlPost} {d : Bool} {acts : List Action} {x : ExceptionTableEntry} {t : List ExceptionTableEntry} {c : ClassId} {cell : Cell} (hx : covers x f.pc = true) (h0 : x.catchType ≠ 0)
    (hl : s.vm.ClassLinks e.platform f.method.cls x.catchType c) (hcell : s.heap[a]? = some cell) (hobj : ∀ k, cell.vm ≠ .statics k)
    (hk : ∃ k, s.vm.classes[cell.cls]? = some k) (hc : ∃ k, s.vm.classes[c]? = some k) :
    Sem.wp (findHandler.go f a (x :: t)) Q E e d acts s ↔
      if s.vm.assignable cell.cls c = true then Q (.found x.handlerPc) d acts (s.setVm (s.vm.noted f.method.cls x.catchType (.cls c))) else Sem.wp (findHandler.go f a t) Q E e d acts (s.setVm (s.vm.noted f.method.cls x.catchType (.cls c))) := by
  simp only [covers] at hx
  obtain ⟨ha, ht⟩ := (resolveClass_links e.toSetting hl).op (op := VmOp.resolveClass f.method.cls x.catchType) rfl
  have hal : s.vm.Alike (s.vm.noted f.method.cls x.catchType (.cls c)) := (Vm.Alike.refl s.vm).noted _ _ _
  obtain ⟨k1, hk1⟩ := hk
  obtain ⟨k2, hk2⟩ := hc
  obtain ⟨k1', hk1', -⟩ := hal.2.2 _ _ hk1
  obtain ⟨k2', hk2', -⟩ := hal.2.2 _ _ hk2
  cases hfit : s.vm.assignable cell.cls c with
  | true =>
    have hfit' : (s.vm.noted f.method.cls x.catchType (.cls c)).assignable cell.cls c = true := by rw [hal.assignable]; exact hfit
    simp [findHandler.go, hx, h0, ha, ht, hcell, hobj, hk1', hk2', hfit', VmOp.dirties, VmOp.acts]
  | false =>
    have hfit' : (s.vm.noted f.method.cls x.catchType (.cls c)).assignable cell.cls c = false := by rw [hal.assignable]; exact hfit
    simp [findHandler.go, hx, h0, ha, ht, hcell, hobj, hk1', hk2', hfit', VmOp.dirties, VmOp.acts]
/-- one step: the frame goes on at the handler -/
theorem tw_step {r : List Frame} {pc : Nat} {vm' : Vm} (hfind : tw_Fd e s f a (.found pc) vm') :
    (stepThrowing e s a (.java f :: r)).Is ((s.setVm vm').setFrames (.java { f with pc := pc, stack := [.ref a] } :: r)) [] := by
  simp only [stepThrowing, searchFrame, vmDo]
  generalize hr : Sem.go _ e false [] s = res
  obtain ⟨as, rfl, ha⟩ := Sem.eq_ok_of hr (a := Handler.found pc) (s' := s.setVm vm') (acts' := []) (by simp [hfind _ _ _ _])
  exact ⟨rfl, ha⟩
theorem tw_steps {tb : Tables} {target : State} {g : JFrame} {c : Code} {below : List Frame} (h : At s g.method c below) {pc : Nat} {vm' : Vm}
    (hfind : tw_Fd e ((s.setTop g).pushFrame (.throwing a)) g a (.found pc) vm') (hrest : Steps tb e below ((s.setVm vm').setTop { g with pc := pc, stack := [.ref a] }) target) :
    Steps tb e below ((s.setTop g).pushFrame (.throwing a)) target := by
  obtain ⟨hgo, hw⟩ := h.throwing a
  refine Steps.head hgo hw ?_
  rw [stepThread_throwing (frames_entered h.top _), (tw_step (s := (s.setTop g).pushFrame (.throwing a)) hfind).1]
  obtain ⟨g₀, hg⟩ := Option.isSome_iff_exists.mp h.top
  obtain ⟨r, hr⟩ := State.topJava?_eq_some.mp hg
  have hr' : (s.setVm vm').frames = .java g₀ :: r := hr
  rw [State.setTop_of_frames _ hr'] at hrest
  have h1 : ∀ (u : State) (F G : List Frame), ((u.setFrames F).setVm vm').setFrames G = (u.setVm vm').setFrames G := by
    intro u F G
    have h2 : (u.setFrames F).setVm vm' = (u.setVm vm').setFrames F := rfl
    rw [h2, State.setFrames_setFrames]
  rw [hr, List.tail_cons, State.pushFrame, h1, State.setTop_of_frames _ hr, h1]
  exact hrest
end TwCatch
section TwStand
variable {p : Program} {l : Launch} {e : Env} {R : Room} {s : State} {m : MethodId} {args : Array Value} {below : List Frame} {meth : Method} {c : Code} {T : State} {locs : List Loc} {cells slots : Nat}
/-- CAUGHT BY THE FIRST ENTRY -/
theorem tw_catch1 (X : Stand p l e R s m args below meth c T locs cells slots) {a : Addr} {g : JFrame} (hg : g.method = m) {own name : String} (hown : s.vm.findClass own = some m.cls)
    {x : ExceptionTableEntry} {rest : List ExceptionTableEntry} (htab : c.exceptionTable.toList = x :: rest) (hx : covers x g.pc = true) (h0 : x.catchType ≠ 0)
    (hlink : (Cond.classLink own x.catchType name).before args s = true) {cT : ClassId} {cell : Cell} (hcT : s.vm.findClass name = some cT) (hcell : T.heap[a]? = some cell) (hobj : cell.vm.isStatics = false) (hfit : s.vm.assignable cell.cls cT = true) :
    ∃ vm', Stand p l e R s m args below meth c (T.setVm vm') locs cells slots ∧
      ∀ target, Steps p.tables e below ((T.setVm vm').setTop { g with pc := x.handlerPc, stack := [.ref a] }) target → Steps p.tables e below ((T.setTop g).pushFrame (.throwing a)) target := by
  subst hg
  have hpl : e.platform.magicAccessors = ({} : Platform).magicAccessors := by rw [X.admits.platform]
  obtain ⟨c', hc', hcl⟩ := Cond.classLink_spec hown hlink e.platform hpl
  cases hcT.symm.trans hc'
  obtain ⟨dk, _, _, kt, hd, _, _, _, _, hkt, _, hopen⟩ := hcl.here
  have hcl₀ := X.warmed.classLinks hcl
  have hW' : s.WarmedH (T.vm.noted g.method.cls x.catchType (.cls cT)) := X.warmed.noted hd hopen (State.rightAt_cls hcl)
  have hal := X.warmed.alike
  obtain ⟨kt', hkt', -⟩ := hal.2.2 _ _ hkt
  have hfit' : T.vm.assignable cell.cls cT = true := by rw [hal.assignable]; exact hfit
  refine ⟨_, X.noted hW', fun target hrest => tw_steps X.here (fun Q E d acts => ?_) hrest⟩
  rw [W.findHandler_eq (s := (T.setTop g).pushFrame (.throwing a)) (meth := meth) (code := c) X.method' X.code, htab]
  rw [tw_entry (s := (T.setTop g).pushFrame (.throwing a)) hx h0 hcl₀ hcell (VmData.ne_statics_of hobj) (Vm.classAt_of_assignable hfit' ⟨kt', hkt'⟩) ⟨kt', hkt'⟩]
  exact Iff.of_eq (if_pos hfit')
end TwStand
/-! WHAT A THROW READS OF THE HEAP: Throwable's two statics -/
/-- the static field n of Throwable: laid, holding a reference or null, its cell below lim -/
def tw_Zs (n d : String) (U : State) (H : Heap) (lim : Nat) : Prop := ∃ (c : ClassId) (k : Class) (i : Nat) (f : Field) (a : Nat) (cell : Cell) (v : Value), U.vm.findClass Bundle.tN = some c ∧ U.fieldFound? Bundle.tN n d = some (c, k, i, f) ∧ f.isStatic = true ∧ k.statics = some a ∧ H[a]? = some cell ∧ cell.vm.isStatics = true ∧ cell.cls = c ∧ f.slot < cell.slots.size ∧ k.staticTypes[f.slot]? = some f.type ∧ cell.slots[f.slot]? = some v ∧ v.isRef = true ∧ a < lim
theorem tw_Zs.moved {n d : String} {u U : State} {H : Heap} {lim : Nat} (hvm : u.vm.Alike U.vm) (h : tw_Zs n d u H lim) : tw_Zs n d U H lim := by
  obtain ⟨c, k, i, f, a, cell, v, h0, h1, h2, h3, h4, h5, h6, h7, h8, h9⟩ := h
  obtain ⟨k', hi', he⟩ := State.fieldFound?_setVm hvm h1
  exact ⟨c, k', i, f, a, cell, v, by rw [hvm.findClass]; exact h0, hi', h2, by rw [he]; exact h3, h4, h5, h6, h7, by rw [he]; exact h8, h9⟩
theorem tw_Zs.kept {n d : String} {U : State} {H H1 : Heap} {lim : Nat} (h : tw_Zs n d U H lim) (hq : ∀ a : Nat, a < lim → H1[a]? = H[a]?) : tw_Zs n d U H1 lim := by
  obtain ⟨c, k, i, f, a, cell, v, h0, h1, h2, h3, h4, h5, h6, h7, h8, h9, h10, h11⟩ := h
  exact ⟨c, k, i, f, a, cell, v, h0, h1, h2, h3, by rw [hq a h11]; exact h4, h5, h6, h7, h8, h9, h10, h11⟩
theorem tw_Zs.of {n d : String} {s : State} {args : Array Value} (h1 : (Cond.laysStatic Bundle.tN n d).before args s = true) (h2 : (Cond.isRef (.static Bundle.tN n d)).before args s = true) : tw_Zs n d s s.heap s.heap.size := by
  obtain ⟨c, k, i, f, a, cell, hc, hi, hst, ha, hcell, hs, hcls, hlt, hty⟩ := Cond.laysStatic_spec h1
  have hev : (Term.static Bundle.tN n d).eval args s none [] s = cell.slots[f.slot]? := by
    simp [Term.eval, State.fieldNamed?, hi, hst, ha, hcell, hs]
  refine ⟨c, k, i, f, a, cell, cell.slots[f.slot], hc, hi, hst, ha, hcell, hs, hcls, hlt, hty, by simp, ?_, (Array.getElem?_eq_some_iff.mp hcell).1⟩
  simp only [Cond.before, Cond.holds, Cond.value, hev, Array.getElem?_eq_getElem hlt] at h2
  generalize cell.slots[f.slot] = v at h2 ⊢
  cases v <;> first | rfl | (simp at h2; done)
theorem tw_Zs.lays {n d : String} {U : State} {args : Array Value} {lim : Nat} (h : tw_Zs n d U U.heap lim) : (Cond.laysStatic Bundle.tN n d).before args U = true := by
  obtain ⟨c, k, i, f, a, cell, v, h0, h1, h2, h3, h4, h5, h6, h7, h8, h9, h10, h11⟩ := h
  exact Cond.laysStatic_of h0 h1 h2 h3 h4 h5 h6 h7 h8
theorem tw_Zs.ref {n d : String} {U : State} {args : Array Value} {lim : Nat} (h : tw_Zs n d U U.heap lim) : (Cond.isRef (.static Bundle.tN n d)).before args U = true := by
  obtain ⟨c, k, i, f, a, cell, v, h0, h1, h2, h3, h4, h5, h6, h7, h8, h9, h10, h11⟩ := h
  cases v <;> first | (simp [Cond.before, Cond.holds, Cond.value, Term.eval, State.fieldNamed?, h1, h2, h3, h4, h5, h9]; done) | (simp [Value.isRef] at h10; done)
/-- both -/
def tw_Z (U : State) (H : Heap) (lim : Nat) : Prop := tw_Zs "UNASSIGNED_STACK" Bundle.steD U H lim ∧ tw_Zs "SUPPRESSED_SENTINEL" Bundle.listD U H lim
theorem tw_Z.moved {u U : State} {H : Heap} {lim : Nat} (hvm : u.vm.Alike U.vm) (h : tw_Z u H lim) : tw_Z U H lim := ⟨h.1.moved hvm, h.2.moved hvm⟩
theorem tw_Z.kept {U : State} {H H1 : Heap} {lim : Nat} (h : tw_Z U H lim) (hq : ∀ a : Nat, a < lim → H1[a]? = H[a]?) : tw_Z U H1 lim := ⟨h.1.kept hq, h.2.kept hq⟩
def tw_hw (w : Cond) : Bool := decide (w = .laysStatic Bundle.tN "UNASSIGNED_STACK" Bundle.steD) || decide (w = .laysStatic Bundle.tN "SUPPRESSED_SENTINEL" Bundle.listD) || decide (w = .isRef (.static Bundle.tN "UNASSIGNED_STACK" Bundle.steD)) || decide (w = .isRef (.static Bundle.tN "SUPPRESSED_SENTINEL" Bundle.listD))
theorem tw_hat {args : Array Value} {s : State} {lim : Nat} {L : List Cond} (ht : ∀ w ∈ bg_W, w.before args s = true) (hz : tw_Z s s.heap lim) (h : L.all (fun w => tw_hw w || decide (w ∈ bg_W)) = true) : ∀ w ∈ L, w.before args s = true := by
  intro w hw
  have h1 := List.all_eq_true.mp h w hw
  rw [Bool.or_eq_true] at h1
  rcases h1 with h1 | h1
  · simp only [tw_hw, Bool.or_eq_true, decide_eq_true_eq] at h1
    rcases h1 with ((rfl | rfl) | rfl) | rfl
    · exact hz.1.lays
    · exact hz.2.lays
    · exact hz.1.ref
    · exact hz.2.ref
  · exact ht w (of_decide_eq_true h1)
def tw_up : List String := ["java/lang/RuntimeException", "java/lang/Exception"]
end
section
abbrev R_Ck : String := "ClauseSearch$Check"
def F_Ck : u_T := fun k => match k with
  | 0 => ("ClauseSearch$Check", "rows", "LClauseSearch$Rows;", true)
  | _ => ("ClauseSearch$Check", "trail", "LClauseSearch$Trail;", true)
def t_Ck : Nat → FieldType := fun k => match k with
  | 0 => .object "ClauseSearch$Rows"
  | _ => .object "ClauseSearch$Trail"
theorem n_Ck : ∀ a, a < 2 → ∀ b, b < 2 → a ≠ b → (F_Ck a).2.1 ≠ (F_Ck b).2.1 := by decide +kernel
theorem t_Ck_ok : ∀ k, k < 2 → parseFieldDescriptor (F_Ck k).2.2.1 = some (t_Ck k) := by decide +kernel
theorem in_Ck : ∀ w ∈ u_ws R_Ck F_Ck 2, w ∈ bg_W := by decide +kernel
abbrev R_Ls : String := "ClauseSearch$Lesson"
def F_Ls : u_T := fun k => match k with
  | 0 => ("ClauseSearch$Lesson", "rows", "LClauseSearch$Rows;", true)
  | 1 => ("ClauseSearch$Lesson", "trail", "LClauseSearch$Trail;", true)
  | 2 => ("ClauseSearch$Lesson", "seen", "[Z", true)
  | 3 => ("ClauseSearch$Lesson", "codes", "[I", true)
  | 4 => ("ClauseSearch$Lesson", "used", "[I", true)
  | 5 => ("ClauseSearch$Lesson", "size", "I", false)
  | 6 => ("ClauseSearch$Lesson", "usedSize", "I", false)
  | _ => ("ClauseSearch$Lesson", "open", "I", false)
def t_Ls : Nat → FieldType := fun k => match k with
  | 0 => .object "ClauseSearch$Rows"
  | 1 => .object "ClauseSearch$Trail"
  | 2 => .array .boolean
  | 3 => .array .int
  | 4 => .array .int
  | 5 => .int
  | 6 => .int
  | _ => .int
theorem n_Ls : ∀ a, a < 8 → ∀ b, b < 8 → a ≠ b → (F_Ls a).2.1 ≠ (F_Ls b).2.1 := by decide +kernel
theorem t_Ls_ok : ∀ k, k < 8 → parseFieldDescriptor (F_Ls k).2.2.1 = some (t_Ls k) := by decide +kernel
theorem in_Ls : ∀ w ∈ u_ws R_Ls F_Ls 8, w ∈ bg_W := by decide +kernel
abbrev R_Rw : String := "ClauseSearch$Rows"
def F_Rw : u_T := fun k => match k with
  | 0 => ("ClauseSearch$Rows", "start", "[I", false)
  | 1 => ("ClauseSearch$Rows", "kind", "[I", false)
  | 2 => ("ClauseSearch$Rows", "codes", "[I", false)
  | _ => ("ClauseSearch$Rows", "size", "I", false)
def t_Rw : Nat → FieldType := fun k => match k with
  | 0 => .array .int
  | 1 => .array .int
  | 2 => .array .int
  | _ => .int
theorem n_Rw : ∀ a, a < 4 → ∀ b, b < 4 → a ≠ b → (F_Rw a).2.1 ≠ (F_Rw b).2.1 := by decide +kernel
theorem t_Rw_ok : ∀ k, k < 4 → parseFieldDescriptor (F_Rw k).2.2.1 = some (t_Rw k) := by decide +kernel
theorem in_Rw : ∀ w ∈ u_ws R_Rw F_Rw 4, w ∈ bg_W := by decide +kernel
abbrev R_Sr : String := "ClauseSearch$Search"
def F_Sr : u_T := fun k => match k with
  | 0 => ("ClauseSearch$Search", "rows", "LClauseSearch$Rows;", true)
  | 1 => ("ClauseSearch$Search", "trail", "LClauseSearch$Trail;", true)
  | 2 => ("ClauseSearch$Search", "watch", "LClauseSearch$Watch;", true)
  | 3 => ("ClauseSearch$Search", "lesson", "LClauseSearch$Lesson;", true)
  | 4 => ("ClauseSearch$Search", "check", "LClauseSearch$Check;", true)
  | 5 => ("ClauseSearch$Search", "plain", "[I", true)
  | 6 => ("ClauseSearch$Search", "facts", "[I", true)
  | 7 => ("ClauseSearch$Search", "isFact", "[Z", true)
  | 8 => ("ClauseSearch$Search", "factCount", "I", false)
  | 9 => ("ClauseSearch$Search", "lessonCount", "I", false)
  | 10 => ("ClauseSearch$Search", "badLessons", "I", false)
  | _ => ("ClauseSearch$Search", "hopeless", "Z", false)
def t_Sr : Nat → FieldType := fun k => match k with
  | 0 => .object "ClauseSearch$Rows"
  | 1 => .object "ClauseSearch$Trail"
  | 2 => .object "ClauseSearch$Watch"
  | 3 => .object "ClauseSearch$Lesson"
  | 4 => .object "ClauseSearch$Check"
  | 5 => .array .int
  | 6 => .array .int
  | 7 => .array .boolean
  | 8 => .int
  | 9 => .int
  | 10 => .int
  | _ => .boolean
theorem n_Sr : ∀ a, a < 12 → ∀ b, b < 12 → a ≠ b → (F_Sr a).2.1 ≠ (F_Sr b).2.1 := by decide +kernel
theorem t_Sr_ok : ∀ k, k < 12 → parseFieldDescriptor (F_Sr k).2.2.1 = some (t_Sr k) := by decide +kernel
theorem in_Sr : ∀ w ∈ u_ws R_Sr F_Sr 12, w ∈ bg_W := by decide +kernel
abbrev R_Tr : String := "ClauseSearch$Trail"
def F_Tr : u_T := fun k => match k with
  | 0 => ("ClauseSearch$Trail", "truth", "[B", true)
  | 1 => ("ClauseSearch$Trail", "order", "[I", true)
  | 2 => ("ClauseSearch$Trail", "levelOf", "[I", true)
  | 3 => ("ClauseSearch$Trail", "reason", "[I", true)
  | 4 => ("ClauseSearch$Trail", "levelStart", "[I", true)
  | 5 => ("ClauseSearch$Trail", "size", "I", false)
  | 6 => ("ClauseSearch$Trail", "followed", "I", false)
  | 7 => ("ClauseSearch$Trail", "level", "I", false)
  | _ => ("ClauseSearch$Trail", "lowest", "I", false)
def t_Tr : Nat → FieldType := fun k => match k with
  | 0 => .array .byte
  | 1 => .array .int
  | 2 => .array .int
  | 3 => .array .int
  | 4 => .array .int
  | 5 => .int
  | 6 => .int
  | 7 => .int
  | _ => .int
theorem n_Tr : ∀ a, a < 9 → ∀ b, b < 9 → a ≠ b → (F_Tr a).2.1 ≠ (F_Tr b).2.1 := by decide +kernel
theorem t_Tr_ok : ∀ k, k < 9 → parseFieldDescriptor (F_Tr k).2.2.1 = some (t_Tr k) := by decide +kernel
theorem in_Tr : ∀ w ∈ u_ws R_Tr F_Tr 9, w ∈ bg_W := by decide +kernel
abbrev R_Wt : String := "ClauseSearch$Watch"
def F_Wt : u_T := fun k => match k with
  | 0 => ("ClauseSearch$Watch", "rows", "LClauseSearch$Rows;", true)
  | 1 => ("ClauseSearch$Watch", "trail", "LClauseSearch$Trail;", true)
  | 2 => ("ClauseSearch$Watch", "head", "[I", true)
  | _ => ("ClauseSearch$Watch", "next", "[I", false)
def t_Wt : Nat → FieldType := fun k => match k with
  | 0 => .object "ClauseSearch$Rows"
  | 1 => .object "ClauseSearch$Trail"
  | 2 => .array .int
  | _ => .array .int
theorem n_Wt : ∀ a, a < 4 → ∀ b, b < 4 → a ≠ b → (F_Wt a).2.1 ≠ (F_Wt b).2.1 := by decide +kernel
theorem t_Wt_ok : ∀ k, k < 4 → parseFieldDescriptor (F_Wt k).2.2.1 = some (t_Wt k) := by decide +kernel
theorem in_Wt : ∀ w ∈ u_ws R_Wt F_Wt 4, w ∈ bg_W := by decide +kernel
abbrev R_Cs : String := "ClauseSearch"
def F_Cs : u_T := fun k => match k with
  | 0 => ("ClauseSearch", "row", "[I", true)
  | 1 => ("ClauseSearch", "clauses", "LClauseSearch$Rows;", true)
  | 2 => ("ClauseSearch", "search", "LClauseSearch$Search;", true)
  | 3 => ("ClauseSearch", "way", "[Z", true)
  | 4 => ("ClauseSearch", "rowSize", "I", false)
  | 5 => ("ClauseSearch", "variableCount", "I", false)
  | 6 => ("ClauseSearch", "wayStands", "Z", false)
  | _ => ("ClauseSearch", "badWays", "I", false)
def t_Cs : Nat → FieldType := fun k => match k with
  | 0 => .array .int
  | 1 => .object "ClauseSearch$Rows"
  | 2 => .object "ClauseSearch$Search"
  | 3 => .array .boolean
  | 4 => .int
  | 5 => .int
  | 6 => .boolean
  | _ => .int
theorem n_Cs : ∀ a, a < 8 → ∀ b, b < 8 → a ≠ b → (F_Cs a).2.1 ≠ (F_Cs b).2.1 := by decide +kernel
theorem t_Cs_ok : ∀ k, k < 8 → parseFieldDescriptor (F_Cs k).2.2.1 = some (t_Cs k) := by decide +kernel
theorem in_Cs : ∀ w ∈ u_ws R_Cs F_Cs 8, w ∈ bg_W := by decide +kernel
abbrev R_Md : String := "ClauseSearchModel"
def F_Md : u_T := fun k => match k with
  | 0 => ("ClauseSearchModel", "literal", "[I", true)
  | 1 => ("ClauseSearchModel", "first", "[I", true)
  | 2 => ("ClauseSearchModel", "row", "[I", true)
  | 3 => ("ClauseSearchModel", "assumed", "[I", true)
  | 4 => ("ClauseSearchModel", "way", "[I", true)
  | 5 => ("ClauseSearchModel", "variables", "I", false)
  | 6 => ("ClauseSearchModel", "clauses", "I", false)
  | 7 => ("ClauseSearchModel", "given", "I", false)
  | 8 => ("ClauseSearchModel", "assumptions", "I", false)
  | 9 => ("ClauseSearchModel", "stands", "Z", false)
  | 10 => ("ClauseSearchModel", "code", "I", false)
  | 11 => ("ClauseSearchModel", "trail", "[I", true)
  | 12 => ("ClauseSearchModel", "length", "I", false)
  | 13 => ("ClauseSearchModel", "chosen", "[I", true)
  | _ => ("ClauseSearchModel", "mark", "[I", true)
def t_Md : Nat → FieldType := fun k => match k with
  | 0 => .array .int
  | 1 => .array .int
  | 2 => .array .int
  | 3 => .array .int
  | 4 => .array .int
  | 5 => .int
  | 6 => .int
  | 7 => .int
  | 8 => .int
  | 9 => .boolean
  | 10 => .int
  | 11 => .array .int
  | 12 => .int
  | 13 => .array .int
  | _ => .array .int
theorem n_Md : ∀ a, a < 15 → ∀ b, b < 15 → a ≠ b → (F_Md a).2.1 ≠ (F_Md b).2.1 := by decide +kernel
theorem t_Md_ok : ∀ k, k < 15 → parseFieldDescriptor (F_Md k).2.2.1 = some (t_Md k) := by decide +kernel
theorem in_Md : ∀ w ∈ u_ws R_Md F_Md 15, w ∈ bg_W := by decide +kernel
abbrev R_Lw : String := "ClauseSearchLaw"
abbrev R_Ar : String := "java/util/Arrays"
abbrev vwCl : List vw_C := [(R_Ck, F_Ck, 2), (R_Ls, F_Ls, 8), (R_Rw, F_Rw, 4), (R_Sr, F_Sr, 12), (R_Tr, F_Tr, 9), (R_Wt, F_Wt, 4), (R_Cs, F_Cs, 8), (R_Md, F_Md, 15)]
end
section
abbrev y_Rw_init : MethodName := ⟨"ClauseSearch$Rows", "<init>", "()V"⟩
abbrev y_Tr_init : MethodName := ⟨"ClauseSearch$Trail", "<init>", "()V"⟩
theorem k_52 : (Cond.instanceMethod ⟨"java/lang/Object", "<init>", "()V"⟩) ∈ bg_W := bg_in 52 (by decide +kernel) (by decide +kernel)
theorem k_53 : (Cond.code ⟨"java/lang/Object", "<init>", "()V"⟩ object_method_1_code 1 none) ∈ bg_W := bg_in 53 (by decide +kernel) (by decide +kernel)
theorem k_59 : (Cond.methodLink "ClauseSearch$Rows" 1 ⟨"java/lang/Object", "<init>", "()V"⟩) ∈ bg_W := bg_in 59 (by decide +kernel) (by decide +kernel)
theorem k_60 : (Cond.fieldLink "ClauseSearch$Rows" 7 "ClauseSearch$Rows" "start" "[I") ∈ bg_W := bg_in 60 (by decide +kernel) (by decide +kernel)
theorem k_66 : (Cond.fieldLink "ClauseSearch$Rows" 13 "ClauseSearch$Rows" "kind" "[I") ∈ bg_W := bg_in 66 (by decide +kernel) (by decide +kernel)
theorem k_68 : (Cond.fieldLink "ClauseSearch$Rows" 16 "ClauseSearch$Rows" "codes" "[I") ∈ bg_W := bg_in 68 (by decide +kernel) (by decide +kernel)
theorem k_87 : (Cond.arrayClass .int) ∈ bg_W := bg_in 87 (by decide +kernel) (by decide +kernel)
theorem k_95 : (Cond.methodLink "ClauseSearch$Trail" 3 ⟨"java/lang/Object", "<init>", "()V"⟩) ∈ bg_W := bg_in 95 (by decide +kernel) (by decide +kernel)
theorem k_96 : (Cond.fieldLink "ClauseSearch$Trail" 9 "ClauseSearch$Trail" "truth" "[B") ∈ bg_W := bg_in 96 (by decide +kernel) (by decide +kernel)
theorem k_100 : (Cond.fieldLink "ClauseSearch$Trail" 15 "ClauseSearch$Trail" "order" "[I") ∈ bg_W := bg_in 100 (by decide +kernel) (by decide +kernel)
theorem k_103 : (Cond.fieldLink "ClauseSearch$Trail" 19 "ClauseSearch$Trail" "levelOf" "[I") ∈ bg_W := bg_in 103 (by decide +kernel) (by decide +kernel)
theorem k_105 : (Cond.fieldLink "ClauseSearch$Trail" 22 "ClauseSearch$Trail" "reason" "[I") ∈ bg_W := bg_in 105 (by decide +kernel) (by decide +kernel)
theorem k_108 : (Cond.fieldLink "ClauseSearch$Trail" 25 "ClauseSearch$Trail" "levelStart" "[I") ∈ bg_W := bg_in 108 (by decide +kernel) (by decide +kernel)
theorem k_117 : (Cond.fieldLink "ClauseSearch$Trail" 28 "ClauseSearch$Trail" "lowest" "I") ∈ bg_W := bg_in 117 (by decide +kernel) (by decide +kernel)
theorem k_137 : (Cond.arrayClass .byte) ∈ bg_W := bg_in 137 (by decide +kernel) (by decide +kernel)
theorem d_Rw_init_0 : decode prog_4_method_1_code 0 = .ok (.aload_n 0, 1) := by decide +kernel
theorem d_Rw_init_1 : decode prog_4_method_1_code 1 = .ok (.invokespecial 1, 3) := by decide +kernel
theorem d_Rw_init_4 : decode prog_4_method_1_code 4 = .ok (.aload_n 0, 1) := by decide +kernel
theorem d_Rw_init_5 : decode prog_4_method_1_code 5 = .ok (.bipush 64, 2) := by decide +kernel
theorem d_Rw_init_7 : decode prog_4_method_1_code 7 = .ok (.newarray .int, 2) := by decide +kernel
theorem d_Rw_init_9 : decode prog_4_method_1_code 9 = .ok (.putfield 7, 3) := by decide +kernel
theorem d_Rw_init_12 : decode prog_4_method_1_code 12 = .ok (.aload_n 0, 1) := by decide +kernel
theorem d_Rw_init_13 : decode prog_4_method_1_code 13 = .ok (.bipush 64, 2) := by decide +kernel
theorem d_Rw_init_15 : decode prog_4_method_1_code 15 = .ok (.newarray .int, 2) := by decide +kernel
theorem d_Rw_init_17 : decode prog_4_method_1_code 17 = .ok (.putfield 13, 3) := by decide +kernel
theorem d_Rw_init_20 : decode prog_4_method_1_code 20 = .ok (.aload_n 0, 1) := by decide +kernel
theorem d_Rw_init_21 : decode prog_4_method_1_code 21 = .ok (.sipush 256, 3) := by decide +kernel
theorem d_Rw_init_24 : decode prog_4_method_1_code 24 = .ok (.newarray .int, 2) := by decide +kernel
theorem d_Rw_init_26 : decode prog_4_method_1_code 26 = .ok (.putfield 16, 3) := by decide +kernel
theorem d_Rw_init_29 : decode prog_4_method_1_code 29 = .ok (.return_, 1) := by decide +kernel
theorem d_Tr_init_0 : decode prog_6_method_1_code 0 = .ok (.aload_n 0, 1) := by decide +kernel
theorem d_Tr_init_1 : decode prog_6_method_1_code 1 = .ok (.invokespecial 3, 3) := by decide +kernel
theorem d_Tr_init_4 : decode prog_6_method_1_code 4 = .ok (.aload_n 0, 1) := by decide +kernel
theorem d_Tr_init_5 : decode prog_6_method_1_code 5 = .ok (.sipush 802, 3) := by decide +kernel
theorem d_Tr_init_8 : decode prog_6_method_1_code 8 = .ok (.newarray .byte, 2) := by decide +kernel
theorem d_Tr_init_10 : decode prog_6_method_1_code 10 = .ok (.putfield 9, 3) := by decide +kernel
theorem d_Tr_init_13 : decode prog_6_method_1_code 13 = .ok (.aload_n 0, 1) := by decide +kernel
theorem d_Tr_init_14 : decode prog_6_method_1_code 14 = .ok (.sipush 401, 3) := by decide +kernel
theorem d_Tr_init_17 : decode prog_6_method_1_code 17 = .ok (.newarray .int, 2) := by decide +kernel
theorem d_Tr_init_19 : decode prog_6_method_1_code 19 = .ok (.putfield 15, 3) := by decide +kernel
theorem d_Tr_init_22 : decode prog_6_method_1_code 22 = .ok (.aload_n 0, 1) := by decide +kernel
theorem d_Tr_init_23 : decode prog_6_method_1_code 23 = .ok (.sipush 401, 3) := by decide +kernel
theorem d_Tr_init_26 : decode prog_6_method_1_code 26 = .ok (.newarray .int, 2) := by decide +kernel
theorem d_Tr_init_28 : decode prog_6_method_1_code 28 = .ok (.putfield 19, 3) := by decide +kernel
theorem d_Tr_init_31 : decode prog_6_method_1_code 31 = .ok (.aload_n 0, 1) := by decide +kernel
theorem d_Tr_init_32 : decode prog_6_method_1_code 32 = .ok (.sipush 401, 3) := by decide +kernel
theorem d_Tr_init_35 : decode prog_6_method_1_code 35 = .ok (.newarray .int, 2) := by decide +kernel
theorem d_Tr_init_37 : decode prog_6_method_1_code 37 = .ok (.putfield 22, 3) := by decide +kernel
theorem d_Tr_init_40 : decode prog_6_method_1_code 40 = .ok (.aload_n 0, 1) := by decide +kernel
theorem d_Tr_init_41 : decode prog_6_method_1_code 41 = .ok (.sipush 402, 3) := by decide +kernel
theorem d_Tr_init_44 : decode prog_6_method_1_code 44 = .ok (.newarray .int, 2) := by decide +kernel
theorem d_Tr_init_46 : decode prog_6_method_1_code 46 = .ok (.putfield 25, 3) := by decide +kernel
theorem d_Tr_init_49 : decode prog_6_method_1_code 49 = .ok (.aload_n 0, 1) := by decide +kernel
theorem d_Tr_init_50 : decode prog_6_method_1_code 50 = .ok (.iconst 1, 1) := by decide +kernel
theorem d_Tr_init_51 : decode prog_6_method_1_code 51 = .ok (.putfield 28, 3) := by decide +kernel
theorem d_Tr_init_54 : decode prog_6_method_1_code 54 = .ok (.return_, 1) := by decide +kernel
set_option maxHeartbeats 4000000 in
set_option maxRecDepth 100000 in
/-- Rows(): three arrays -/
theorem c_Rw_init (l : Launch) (dC : Nat → ClassId) (dI : Nat → Nat → Nat) (h0 : Nat) (sz : Nat) : Met l y_Rw_init (wq y_Rw_init prog_4_method_1_code 1 none) ({ frames := 1, cells := 3, slots := 384, locals := 12 }) (va_Pc [.ref h0] (fun U => U.heap.size = sz ∧ va_P (dC, dI) vwCl [(h0, .inr (2, [.null, .null, .null, .int 0]))] U.heap ∧ va_K (dC, dI) vwCl [] U ∧ va_D (fun _ => True) [(h0, .inr (2, [.null, .null, .null, .int 0]))])) (va_Qv (fun _ : Unit => True) (fun (_ : Unit) t => ∃ (q_1 : Nat) (z_2 : ClassId) (q_3 : Nat) (z_4 : ClassId) (q_5 : Nat) (z_6 : ClassId), va_P (dC, dI) vwCl [(h0, .inr (2, [.ref q_1, .ref q_3, .ref q_5, .int 0])), (q_1, .inl (z_2, 64, .inl (fun _ => 0))), (q_3, .inl (z_4, 64, .inl (fun _ => 0))), (q_5, .inl (z_6, 256, .inl (fun _ => 0)))] t.heap ∧ va_K (dC, dI) vwCl [(z_2, .int), (z_4, .int), (z_6, .int)] t ∧ va_D (va_A [(h0, .inr (2, [.null, .null, .null, .int 0]))] sz) [(h0, .inr (2, [.ref q_1, .ref q_3, .ref q_5, .int 0])), (q_1, .inl (z_2, 64, .inl (fun _ => 0))), (q_3, .inl (z_4, 64, .inl (fun _ => 0))), (q_5, .inl (z_6, 256, .inl (fun _ => 0)))]) (va_A [(h0, .inr (2, [.null, .null, .null, .int 0]))] sz)) 3 384 (va_A [(h0, .inr (2, [.null, .null, .null, .int 0]))] sz) := by
  refine Met.ofW (cc := prog_4_method_1_code) (maxL := 1) (ret := none) (by decide) rfl ?_
  intro p e s m args below meth c s₁ B hml hv
  obtain ⟨rfl, hsz, hP, hK, hD0⟩ := hv
  have hx := B.exec
  have hb := B.bytes
  have hr := B.returns
  have hw : ∀ w ∈ bg_W, w.before #[Value.ref h0] s = true := fun w h => atoms_spec (ws := (wq y_Rw_init prog_4_method_1_code 1 none)) B.pre w (List.mem_cons_of_mem _ h)
  have hown : s.vm.findClass R_Rw = some m.cls := findClass_of_methodNamed B.named
  have hlocks := B.notSynchronized
  have hin : meth.name = "<init>" := (name_of_methodNamed B.named B.method).1
  subst hsz
  have hD := hD0.self (sz := s.heap.size)
  generalize hAe : va_A [(h0, .inr (2, [.null, .null, .null, .int 0]))] s.heap.size = A at hD ⊢
  have hA : ∀ q : Nat, s.heap.size ≤ q → A q := fun q h => by rw [← hAe]; exact Or.inr h
  have hS : va_S A s.heap s.heap [] := va_S.rf
  have hP : va_P (dC, dI) vwCl [(h0, .inr (2, [.null, .null, .null, .int 0]))] s.heap := hP
  have hl := lv_entry ([.ref h0]) (n := 1) (Nat.le_of_ble_eq_true rfl)
  rw [lg_entry_eq]
  generalize (lg_sl ([.ref h0]) ++ List.replicate (1 - (lg_sl ([.ref h0])).length) Slot.unset).toArray = ls at hl ⊢
  have hl : lv_has ls 1 [(0, .ref h0)] := hl
  obtain ⟨H, hH⟩ : ∃ H : Heap, H = s.heap := ⟨_, rfl⟩
  rw [← hH] at hP
  have hS : va_S A s.heap H [] := by rw [hH]; exact va_S.rf
  show W p l e _ s m _ below meth c s.heap [] 0 0 _ _
  rw [← hH]
  refine lv_aload_n hx hb d_Rw_init_0 rfl (lv_at hl 0 rfl) ?_
  refine W.objInit hx hb hown (hw (Cond.methodLink "ClauseSearch$Rows" 1 ⟨"java/lang/Object", "<init>", "()V"⟩) k_59) (hw (Cond.instanceMethod ⟨"java/lang/Object", "<init>", "()V"⟩) k_52) (hw (Cond.code ⟨"java/lang/Object", "<init>", "()V"⟩ object_method_1_code 1 none) k_53) rfl (by rw [hml]; exact hl.1) rfl d_Rw_init_1 (Nat.le_of_ble_eq_true rfl) (Nat.le_of_ble_eq_true rfl) ?_
  refine W.eq (g2 := F0 m 4 ls []) rfl ?_
  refine lv_aload_n hx hb d_Rw_init_4 rfl (lv_at hl 0 rfl) ?_
  refine lv_bipush (v := 64) hx hb d_Rw_init_5 (by decide) ?_
  refine va_newa (atype := .int) hx hb (hw (Cond.arrayClass .int) k_87) (ty := .int) rfl hK hP hD hS hA (n := 64) (N' := 64) (a0 := (64, .inl (fun _ => 0))) (fun _ => rfl) (by decide) (by decide) (by decide) (Nat.le_of_ble_eq_true rfl) (Nat.le_of_ble_eq_true rfl) d_Rw_init_7 (fun q_1 z_2 H hK hP hD hS => ?_)
  have hP : va_P (dC, dI) vwCl [(h0, .inr (2, [.null, .null, .null, .int 0])), (q_1, .inl (z_2, 64, .inl (fun _ => 0)))] H := hP
  have hD : va_D A [(h0, .inr (2, [.null, .null, .null, .int 0])), (q_1, .inl (z_2, 64, .inl (fun _ => 0)))] := hD
  have hK : va_K (dC, dI) vwCl [(z_2, .int)] s := hK
  refine W.widen (k := 1) (n := 64) (by decide) (by decide) ?_
  refine va_put (D := (dC, dI)) (ci := 2) (v := .ref q_1) (ty := .array .int) (C := R_Rw) (T := F_Rw) (N := 4) hx hb hw in_Rw t_Rw t_Rw_ok n_Rw hown hK hP hD hS 0 rfl rfl 0 (by decide) (hw (Cond.fieldLink "ClauseSearch$Rows" 7 "ClauseSearch$Rows" "start" "[I") k_60) (fun _ h9 => h9) rfl (by decide +kernel) rfl rfl (Nat.le_of_ble_eq_true rfl) d_Rw_init_9 (fun H locs hP hD hS => ?_)
  have hP : va_P (dC, dI) vwCl [(h0, .inr (2, [.ref q_1, .null, .null, .int 0])), (q_1, .inl (z_2, 64, .inl (fun _ => 0)))] H := hP
  have hD : va_D A [(h0, .inr (2, [.ref q_1, .null, .null, .int 0])), (q_1, .inl (z_2, 64, .inl (fun _ => 0)))] := hD
  refine lv_aload_n hx hb d_Rw_init_12 rfl (lv_at hl 0 rfl) ?_
  refine lv_bipush (v := 64) hx hb d_Rw_init_13 (by decide) ?_
  refine va_newa (atype := .int) hx hb (hw (Cond.arrayClass .int) k_87) (ty := .int) rfl hK hP hD hS hA (n := 64) (N' := 64) (a0 := (64, .inl (fun _ => 0))) (fun _ => rfl) (by decide) (by decide) (by decide) (Nat.le_of_ble_eq_true rfl) (Nat.le_of_ble_eq_true rfl) d_Rw_init_15 (fun q_3 z_4 H hK hP hD hS => ?_)
  have hP : va_P (dC, dI) vwCl [(h0, .inr (2, [.ref q_1, .null, .null, .int 0])), (q_1, .inl (z_2, 64, .inl (fun _ => 0))), (q_3, .inl (z_4, 64, .inl (fun _ => 0)))] H := hP
  have hD : va_D A [(h0, .inr (2, [.ref q_1, .null, .null, .int 0])), (q_1, .inl (z_2, 64, .inl (fun _ => 0))), (q_3, .inl (z_4, 64, .inl (fun _ => 0)))] := hD
  have hK : va_K (dC, dI) vwCl [(z_2, .int), (z_4, .int)] s := hK
  refine W.widen (k := 2) (n := 128) (by decide) (by decide) ?_
  refine va_put (D := (dC, dI)) (ci := 2) (v := .ref q_3) (ty := .array .int) (C := R_Rw) (T := F_Rw) (N := 4) hx hb hw in_Rw t_Rw t_Rw_ok n_Rw hown hK hP hD hS 0 rfl rfl 1 (by decide) (hw (Cond.fieldLink "ClauseSearch$Rows" 13 "ClauseSearch$Rows" "kind" "[I") k_66) (fun _ h9 => h9) rfl (by decide +kernel) rfl rfl (Nat.le_of_ble_eq_true rfl) d_Rw_init_17 (fun H locs hP hD hS => ?_)
  have hP : va_P (dC, dI) vwCl [(h0, .inr (2, [.ref q_1, .ref q_3, .null, .int 0])), (q_1, .inl (z_2, 64, .inl (fun _ => 0))), (q_3, .inl (z_4, 64, .inl (fun _ => 0)))] H := hP
  have hD : va_D A [(h0, .inr (2, [.ref q_1, .ref q_3, .null, .int 0])), (q_1, .inl (z_2, 64, .inl (fun _ => 0))), (q_3, .inl (z_4, 64, .inl (fun _ => 0)))] := hD
  refine lv_aload_n hx hb d_Rw_init_20 rfl (lv_at hl 0 rfl) ?_
  refine lv_sipush (v := 256) hx hb d_Rw_init_21 (by decide) ?_
  refine va_newa (atype := .int) hx hb (hw (Cond.arrayClass .int) k_87) (ty := .int) rfl hK hP hD hS hA (n := 256) (N' := 256) (a0 := (256, .inl (fun _ => 0))) (fun _ => rfl) (by decide) (by decide) (by decide) (Nat.le_of_ble_eq_true rfl) (Nat.le_of_ble_eq_true rfl) d_Rw_init_24 (fun q_5 z_6 H hK hP hD hS => ?_)
  have hP : va_P (dC, dI) vwCl [(h0, .inr (2, [.ref q_1, .ref q_3, .null, .int 0])), (q_1, .inl (z_2, 64, .inl (fun _ => 0))), (q_3, .inl (z_4, 64, .inl (fun _ => 0))), (q_5, .inl (z_6, 256, .inl (fun _ => 0)))] H := hP
  have hD : va_D A [(h0, .inr (2, [.ref q_1, .ref q_3, .null, .int 0])), (q_1, .inl (z_2, 64, .inl (fun _ => 0))), (q_3, .inl (z_4, 64, .inl (fun _ => 0))), (q_5, .inl (z_6, 256, .inl (fun _ => 0)))] := hD
  have hK : va_K (dC, dI) vwCl [(z_2, .int), (z_4, .int), (z_6, .int)] s := hK
  refine W.widen (k := 3) (n := 384) (by decide) (by decide) ?_
  refine va_put (D := (dC, dI)) (ci := 2) (v := .ref q_5) (ty := .array .int) (C := R_Rw) (T := F_Rw) (N := 4) hx hb hw in_Rw t_Rw t_Rw_ok n_Rw hown hK hP hD hS 0 rfl rfl 2 (by decide) (hw (Cond.fieldLink "ClauseSearch$Rows" 16 "ClauseSearch$Rows" "codes" "[I") k_68) (fun _ h9 => h9) rfl (by decide +kernel) rfl rfl (Nat.le_of_ble_eq_true rfl) d_Rw_init_26 (fun H locs hP hD hS => ?_)
  have hP : va_P (dC, dI) vwCl [(h0, .inr (2, [.ref q_1, .ref q_3, .ref q_5, .int 0])), (q_1, .inl (z_2, 64, .inl (fun _ => 0))), (q_3, .inl (z_4, 64, .inl (fun _ => 0))), (q_5, .inl (z_6, 256, .inl (fun _ => 0)))] H := hP
  have hD : va_D A [(h0, .inr (2, [.ref q_1, .ref q_3, .ref q_5, .int 0])), (q_1, .inl (z_2, 64, .inl (fun _ => 0))), (q_3, .inl (z_4, 64, .inl (fun _ => 0))), (q_5, .inl (z_6, 256, .inl (fun _ => 0)))] := hD
  refine W.widen (k := 3) (n := 384) (by decide) (by decide) ?_
  exact W.vret hx hb hr (fun t ht hW => ⟨⟨(), rfl, trivial, q_1, z_2, q_3, z_4, q_5, z_6, by rw [ht]; exact hP, va_K.moved hW.alike hK, hD⟩, hS.F ht⟩) hS.2.2 d_Rw_init_29

set_option maxHeartbeats 4000000 in
set_option maxRecDepth 100000 in
/-- Trail(): five arrays, lowest is 1 -/
theorem c_Tr_init (l : Launch) (dC : Nat → ClassId) (dI : Nat → Nat → Nat) (h0 : Nat) (sz : Nat) : Met l y_Tr_init (wq y_Tr_init prog_6_method_1_code 1 none) ({ frames := 1, cells := 5, slots := 2407, locals := 12 }) (va_Pc [.ref h0] (fun U => U.heap.size = sz ∧ va_P (dC, dI) vwCl [(h0, .inr (4, [.null, .null, .null, .null, .null, .int 0, .int 0, .int 0, .int 0]))] U.heap ∧ va_K (dC, dI) vwCl [] U ∧ va_D (fun _ => True) [(h0, .inr (4, [.null, .null, .null, .null, .null, .int 0, .int 0, .int 0, .int 0]))])) (va_Qv (fun _ : Unit => True) (fun (_ : Unit) t => ∃ (q_1 : Nat) (z_2 : ClassId) (q_3 : Nat) (z_4 : ClassId) (q_5 : Nat) (z_6 : ClassId) (q_7 : Nat) (z_8 : ClassId) (q_9 : Nat) (z_10 : ClassId), va_P (dC, dI) vwCl [(h0, .inr (4, [.ref q_1, .ref q_3, .ref q_5, .ref q_7, .ref q_9, .int 0, .int 0, .int 0, .int 1])), (q_1, .inl (z_2, 802, .inl (fun _ => 0))), (q_3, .inl (z_4, 401, .inl (fun _ => 0))), (q_5, .inl (z_6, 401, .inl (fun _ => 0))), (q_7, .inl (z_8, 401, .inl (fun _ => 0))), (q_9, .inl (z_10, 402, .inl (fun _ => 0)))] t.heap ∧ va_K (dC, dI) vwCl [(z_2, .byte), (z_4, .int), (z_6, .int), (z_8, .int), (z_10, .int)] t ∧ va_D (va_A [(h0, .inr (4, [.null, .null, .null, .null, .null, .int 0, .int 0, .int 0, .int 0]))] sz) [(h0, .inr (4, [.ref q_1, .ref q_3, .ref q_5, .ref q_7, .ref q_9, .int 0, .int 0, .int 0, .int 1])), (q_1, .inl (z_2, 802, .inl (fun _ => 0))), (q_3, .inl (z_4, 401, .inl (fun _ => 0))), (q_5, .inl (z_6, 401, .inl (fun _ => 0))), (q_7, .inl (z_8, 401, .inl (fun _ => 0))), (q_9, .inl (z_10, 402, .inl (fun _ => 0)))]) (va_A [(h0, .inr (4, [.null, .null, .null, .null, .null, .int 0, .int 0, .int 0, .int 0]))] sz)) 5 2407 (va_A [(h0, .inr (4, [.null, .null, .null, .null, .null, .int 0, .int 0, .int 0, .int 0]))] sz) := by
  refine Met.ofW (cc := prog_6_method_1_code) (maxL := 1) (ret := none) (by decide) rfl ?_
  intro p e s m args below meth c s₁ B hml hv
  obtain ⟨rfl, hsz, hP, hK, hD0⟩ := hv
  have hx := B.exec
  have hb := B.bytes
  have hr := B.returns
  have hw : ∀ w ∈ bg_W, w.before #[Value.ref h0] s = true := fun w h => atoms_spec (ws := (wq y_Tr_init prog_6_method_1_code 1 none)) B.pre w (List.mem_cons_of_mem _ h)
  have hown : s.vm.findClass R_Tr = some m.cls := findClass_of_methodNamed B.named
  have hlocks := B.notSynchronized
  have hin : meth.name = "<init>" := (name_of_methodNamed B.named B.method).1
  subst hsz
  have hD := hD0.self (sz := s.heap.size)
  generalize hAe : va_A [(h0, .inr (4, [.null, .null, .null, .null, .null, .int 0, .int 0, .int 0, .int 0]))] s.heap.size = A at hD ⊢
  have hA : ∀ q : Nat, s.heap.size ≤ q → A q := fun q h => by rw [← hAe]; exact Or.inr h
  have hS : va_S A s.heap s.heap [] := va_S.rf
  have hP : va_P (dC, dI) vwCl [(h0, .inr (4, [.null, .null, .null, .null, .null, .int 0, .int 0, .int 0, .int 0]))] s.heap := hP
  have hl := lv_entry ([.ref h0]) (n := 1) (Nat.le_of_ble_eq_true rfl)
  rw [lg_entry_eq]
  generalize (lg_sl ([.ref h0]) ++ List.replicate (1 - (lg_sl ([.ref h0])).length) Slot.unset).toArray = ls at hl ⊢
  have hl : lv_has ls 1 [(0, .ref h0)] := hl
  obtain ⟨H, hH⟩ : ∃ H : Heap, H = s.heap := ⟨_, rfl⟩
  rw [← hH] at hP
  have hS : va_S A s.heap H [] := by rw [hH]; exact va_S.rf
  show W p l e _ s m _ below meth c s.heap [] 0 0 _ _
  rw [← hH]
  refine lv_aload_n hx hb d_Tr_init_0 rfl (lv_at hl 0 rfl) ?_
  refine W.objInit hx hb hown (hw (Cond.methodLink "ClauseSearch$Trail" 3 ⟨"java/lang/Object", "<init>", "()V"⟩) k_95) (hw (Cond.instanceMethod ⟨"java/lang/Object", "<init>", "()V"⟩) k_52) (hw (Cond.code ⟨"java/lang/Object", "<init>", "()V"⟩ object_method_1_code 1 none) k_53) rfl (by rw [hml]; exact hl.1) rfl d_Tr_init_1 (Nat.le_of_ble_eq_true rfl) (Nat.le_of_ble_eq_true rfl) ?_
  refine W.eq (g2 := F0 m 4 ls []) rfl ?_
  refine lv_aload_n hx hb d_Tr_init_4 rfl (lv_at hl 0 rfl) ?_
  refine lv_sipush (v := 802) hx hb d_Tr_init_5 (by decide) ?_
  refine va_newa (atype := .byte) hx hb (hw (Cond.arrayClass .byte) k_137) (ty := .byte) rfl hK hP hD hS hA (n := 802) (N' := 802) (a0 := (802, .inl (fun _ => 0))) (fun _ => rfl) (by decide) (by decide) (by decide) (Nat.le_of_ble_eq_true rfl) (Nat.le_of_ble_eq_true rfl) d_Tr_init_8 (fun q_1 z_2 H hK hP hD hS => ?_)
  have hP : va_P (dC, dI) vwCl [(h0, .inr (4, [.null, .null, .null, .null, .null, .int 0, .int 0, .int 0, .int 0])), (q_1, .inl (z_2, 802, .inl (fun _ => 0)))] H := hP
  have hD : va_D A [(h0, .inr (4, [.null, .null, .null, .null, .null, .int 0, .int 0, .int 0, .int 0])), (q_1, .inl (z_2, 802, .inl (fun _ => 0)))] := hD
  have hK : va_K (dC, dI) vwCl [(z_2, .byte)] s := hK
  refine W.widen (k := 1) (n := 802) (by decide) (by decide) ?_
  refine va_putF (D := (dC, dI)) (ci := 4) (v := .ref q_1) (ty := .array .byte) (C := R_Tr) (T := F_Tr) (N := 9) hx hb hw in_Tr t_Tr t_Tr_ok n_Tr hown hK hP hD hS 0 rfl rfl 0 (by decide) (hw (Cond.fieldLink "ClauseSearch$Trail" 9 "ClauseSearch$Trail" "truth" "[B") k_96) (fun _ h9 => h9) rfl hin rfl (by decide +kernel) rfl rfl (Nat.le_of_ble_eq_true rfl) d_Tr_init_10 (fun H locs hP hD hS => ?_)
  have hP : va_P (dC, dI) vwCl [(h0, .inr (4, [.ref q_1, .null, .null, .null, .null, .int 0, .int 0, .int 0, .int 0])), (q_1, .inl (z_2, 802, .inl (fun _ => 0)))] H := hP
  have hD : va_D A [(h0, .inr (4, [.ref q_1, .null, .null, .null, .null, .int 0, .int 0, .int 0, .int 0])), (q_1, .inl (z_2, 802, .inl (fun _ => 0)))] := hD
  refine lv_aload_n hx hb d_Tr_init_13 rfl (lv_at hl 0 rfl) ?_
  refine lv_sipush (v := 401) hx hb d_Tr_init_14 (by decide) ?_
  refine va_newa (atype := .int) hx hb (hw (Cond.arrayClass .int) k_87) (ty := .int) rfl hK hP hD hS hA (n := 401) (N' := 401) (a0 := (401, .inl (fun _ => 0))) (fun _ => rfl) (by decide) (by decide) (by decide) (Nat.le_of_ble_eq_true rfl) (Nat.le_of_ble_eq_true rfl) d_Tr_init_17 (fun q_3 z_4 H hK hP hD hS => ?_)
  have hP : va_P (dC, dI) vwCl [(h0, .inr (4, [.ref q_1, .null, .null, .null, .null, .int 0, .int 0, .int 0, .int 0])), (q_1, .inl (z_2, 802, .inl (fun _ => 0))), (q_3, .inl (z_4, 401, .inl (fun _ => 0)))] H := hP
  have hD : va_D A [(h0, .inr (4, [.ref q_1, .null, .null, .null, .null, .int 0, .int 0, .int 0, .int 0])), (q_1, .inl (z_2, 802, .inl (fun _ => 0))), (q_3, .inl (z_4, 401, .inl (fun _ => 0)))] := hD
  have hK : va_K (dC, dI) vwCl [(z_2, .byte), (z_4, .int)] s := hK
  refine W.widen (k := 2) (n := 1203) (by decide) (by decide) ?_
  refine va_putF (D := (dC, dI)) (ci := 4) (v := .ref q_3) (ty := .array .int) (C := R_Tr) (T := F_Tr) (N := 9) hx hb hw in_Tr t_Tr t_Tr_ok n_Tr hown hK hP hD hS 0 rfl rfl 1 (by decide) (hw (Cond.fieldLink "ClauseSearch$Trail" 15 "ClauseSearch$Trail" "order" "[I") k_100) (fun _ h9 => h9) rfl hin rfl (by decide +kernel) rfl rfl (Nat.le_of_ble_eq_true rfl) d_Tr_init_19 (fun H locs hP hD hS => ?_)
  have hP : va_P (dC, dI) vwCl [(h0, .inr (4, [.ref q_1, .ref q_3, .null, .null, .null, .int 0, .int 0, .int 0, .int 0])), (q_1, .inl (z_2, 802, .inl (fun _ => 0))), (q_3, .inl (z_4, 401, .inl (fun _ => 0)))] H := hP
  have hD : va_D A [(h0, .inr (4, [.ref q_1, .ref q_3, .null, .null, .null, .int 0, .int 0, .int 0, .int 0])), (q_1, .inl (z_2, 802, .inl (fun _ => 0))), (q_3, .inl (z_4, 401, .inl (fun _ => 0)))] := hD
  refine lv_aload_n hx hb d_Tr_init_22 rfl (lv_at hl 0 rfl) ?_
  refine lv_sipush (v := 401) hx hb d_Tr_init_23 (by decide) ?_
  refine va_newa (atype := .int) hx hb (hw (Cond.arrayClass .int) k_87) (ty := .int) rfl hK hP hD hS hA (n := 401) (N' := 401) (a0 := (401, .inl (fun _ => 0))) (fun _ => rfl) (by decide) (by decide) (by decide) (Nat.le_of_ble_eq_true rfl) (Nat.le_of_ble_eq_true rfl) d_Tr_init_26 (fun q_5 z_6 H hK hP hD hS => ?_)
  have hP : va_P (dC, dI) vwCl [(h0, .inr (4, [.ref q_1, .ref q_3, .null, .null, .null, .int 0, .int 0, .int 0, .int 0])), (q_1, .inl (z_2, 802, .inl (fun _ => 0))), (q_3, .inl (z_4, 401, .inl (fun _ => 0))), (q_5, .inl (z_6, 401, .inl (fun _ => 0)))] H := hP
  have hD : va_D A [(h0, .inr (4, [.ref q_1, .ref q_3, .null, .null, .null, .int 0, .int 0, .int 0, .int 0])), (q_1, .inl (z_2, 802, .inl (fun _ => 0))), (q_3, .inl (z_4, 401, .inl (fun _ => 0))), (q_5, .inl (z_6, 401, .inl (fun _ => 0)))] := hD
  have hK : va_K (dC, dI) vwCl [(z_2, .byte), (z_4, .int), (z_6, .int)] s := hK
  refine W.widen (k := 3) (n := 1604) (by decide) (by decide) ?_
  refine va_putF (D := (dC, dI)) (ci := 4) (v := .ref q_5) (ty := .array .int) (C := R_Tr) (T := F_Tr) (N := 9) hx hb hw in_Tr t_Tr t_Tr_ok n_Tr hown hK hP hD hS 0 rfl rfl 2 (by decide) (hw (Cond.fieldLink "ClauseSearch$Trail" 19 "ClauseSearch$Trail" "levelOf" "[I") k_103) (fun _ h9 => h9) rfl hin rfl (by decide +kernel) rfl rfl (Nat.le_of_ble_eq_true rfl) d_Tr_init_28 (fun H locs hP hD hS => ?_)
  have hP : va_P (dC, dI) vwCl [(h0, .inr (4, [.ref q_1, .ref q_3, .ref q_5, .null, .null, .int 0, .int 0, .int 0, .int 0])), (q_1, .inl (z_2, 802, .inl (fun _ => 0))), (q_3, .inl (z_4, 401, .inl (fun _ => 0))), (q_5, .inl (z_6, 401, .inl (fun _ => 0)))] H := hP
  have hD : va_D A [(h0, .inr (4, [.ref q_1, .ref q_3, .ref q_5, .null, .null, .int 0, .int 0, .int 0, .int 0])), (q_1, .inl (z_2, 802, .inl (fun _ => 0))), (q_3, .inl (z_4, 401, .inl (fun _ => 0))), (q_5, .inl (z_6, 401, .inl (fun _ => 0)))] := hD
  refine lv_aload_n hx hb d_Tr_init_31 rfl (lv_at hl 0 rfl) ?_
  refine lv_sipush (v := 401) hx hb d_Tr_init_32 (by decide) ?_
  refine va_newa (atype := .int) hx hb (hw (Cond.arrayClass .int) k_87) (ty := .int) rfl hK hP hD hS hA (n := 401) (N' := 401) (a0 := (401, .inl (fun _ => 0))) (fun _ => rfl) (by decide) (by decide) (by decide) (Nat.le_of_ble_eq_true rfl) (Nat.le_of_ble_eq_true rfl) d_Tr_init_35 (fun q_7 z_8 H hK hP hD hS => ?_)
  have hP : va_P (dC, dI) vwCl [(h0, .inr (4, [.ref q_1, .ref q_3, .ref q_5, .null, .null, .int 0, .int 0, .int 0, .int 0])), (q_1, .inl (z_2, 802, .inl (fun _ => 0))), (q_3, .inl (z_4, 401, .inl (fun _ => 0))), (q_5, .inl (z_6, 401, .inl (fun _ => 0))), (q_7, .inl (z_8, 401, .inl (fun _ => 0)))] H := hP
  have hD : va_D A [(h0, .inr (4, [.ref q_1, .ref q_3, .ref q_5, .null, .null, .int 0, .int 0, .int 0, .int 0])), (q_1, .inl (z_2, 802, .inl (fun _ => 0))), (q_3, .inl (z_4, 401, .inl (fun _ => 0))), (q_5, .inl (z_6, 401, .inl (fun _ => 0))), (q_7, .inl (z_8, 401, .inl (fun _ => 0)))] := hD
  have hK : va_K (dC, dI) vwCl [(z_2, .byte), (z_4, .int), (z_6, .int), (z_8, .int)] s := hK
  refine W.widen (k := 4) (n := 2005) (by decide) (by decide) ?_
  refine va_putF (D := (dC, dI)) (ci := 4) (v := .ref q_7) (ty := .array .int) (C := R_Tr) (T := F_Tr) (N := 9) hx hb hw in_Tr t_Tr t_Tr_ok n_Tr hown hK hP hD hS 0 rfl rfl 3 (by decide) (hw (Cond.fieldLink "ClauseSearch$Trail" 22 "ClauseSearch$Trail" "reason" "[I") k_105) (fun _ h9 => h9) rfl hin rfl (by decide +kernel) rfl rfl (Nat.le_of_ble_eq_true rfl) d_Tr_init_37 (fun H locs hP hD hS => ?_)
  have hP : va_P (dC, dI) vwCl [(h0, .inr (4, [.ref q_1, .ref q_3, .ref q_5, .ref q_7, .null, .int 0, .int 0, .int 0, .int 0])), (q_1, .inl (z_2, 802, .inl (fun _ => 0))), (q_3, .inl (z_4, 401, .inl (fun _ => 0))), (q_5, .inl (z_6, 401, .inl (fun _ => 0))), (q_7, .inl (z_8, 401, .inl (fun _ => 0)))] H := hP
  have hD : va_D A [(h0, .inr (4, [.ref q_1, .ref q_3, .ref q_5, .ref q_7, .null, .int 0, .int 0, .int 0, .int 0])), (q_1, .inl (z_2, 802, .inl (fun _ => 0))), (q_3, .inl (z_4, 401, .inl (fun _ => 0))), (q_5, .inl (z_6, 401, .inl (fun _ => 0))), (q_7, .inl (z_8, 401, .inl (fun _ => 0)))] := hD
  refine lv_aload_n hx hb d_Tr_init_40 rfl (lv_at hl 0 rfl) ?_
  refine lv_sipush (v := 402) hx hb d_Tr_init_41 (by decide) ?_
  refine va_newa (atype := .int) hx hb (hw (Cond.arrayClass .int) k_87) (ty := .int) rfl hK hP hD hS hA (n := 402) (N' := 402) (a0 := (402, .inl (fun _ => 0))) (fun _ => rfl) (by decide) (by decide) (by decide) (Nat.le_of_ble_eq_true rfl) (Nat.le_of_ble_eq_true rfl) d_Tr_init_44 (fun q_9 z_10 H hK hP hD hS => ?_)
  have hP : va_P (dC, dI) vwCl [(h0, .inr (4, [.ref q_1, .ref q_3, .ref q_5, .ref q_7, .null, .int 0, .int 0, .int 0, .int 0])), (q_1, .inl (z_2, 802, .inl (fun _ => 0))), (q_3, .inl (z_4, 401, .inl (fun _ => 0))), (q_5, .inl (z_6, 401, .inl (fun _ => 0))), (q_7, .inl (z_8, 401, .inl (fun _ => 0))), (q_9, .inl (z_10, 402, .inl (fun _ => 0)))] H := hP
  have hD : va_D A [(h0, .inr (4, [.ref q_1, .ref q_3, .ref q_5, .ref q_7, .null, .int 0, .int 0, .int 0, .int 0])), (q_1, .inl (z_2, 802, .inl (fun _ => 0))), (q_3, .inl (z_4, 401, .inl (fun _ => 0))), (q_5, .inl (z_6, 401, .inl (fun _ => 0))), (q_7, .inl (z_8, 401, .inl (fun _ => 0))), (q_9, .inl (z_10, 402, .inl (fun _ => 0)))] := hD
  have hK : va_K (dC, dI) vwCl [(z_2, .byte), (z_4, .int), (z_6, .int), (z_8, .int), (z_10, .int)] s := hK
  refine W.widen (k := 5) (n := 2407) (by decide) (by decide) ?_
  refine va_putF (D := (dC, dI)) (ci := 4) (v := .ref q_9) (ty := .array .int) (C := R_Tr) (T := F_Tr) (N := 9) hx hb hw in_Tr t_Tr t_Tr_ok n_Tr hown hK hP hD hS 0 rfl rfl 4 (by decide) (hw (Cond.fieldLink "ClauseSearch$Trail" 25 "ClauseSearch$Trail" "levelStart" "[I") k_108) (fun _ h9 => h9) rfl hin rfl (by decide +kernel) rfl rfl (Nat.le_of_ble_eq_true rfl) d_Tr_init_46 (fun H locs hP hD hS => ?_)
  have hP : va_P (dC, dI) vwCl [(h0, .inr (4, [.ref q_1, .ref q_3, .ref q_5, .ref q_7, .ref q_9, .int 0, .int 0, .int 0, .int 0])), (q_1, .inl (z_2, 802, .inl (fun _ => 0))), (q_3, .inl (z_4, 401, .inl (fun _ => 0))), (q_5, .inl (z_6, 401, .inl (fun _ => 0))), (q_7, .inl (z_8, 401, .inl (fun _ => 0))), (q_9, .inl (z_10, 402, .inl (fun _ => 0)))] H := hP
  have hD : va_D A [(h0, .inr (4, [.ref q_1, .ref q_3, .ref q_5, .ref q_7, .ref q_9, .int 0, .int 0, .int 0, .int 0])), (q_1, .inl (z_2, 802, .inl (fun _ => 0))), (q_3, .inl (z_4, 401, .inl (fun _ => 0))), (q_5, .inl (z_6, 401, .inl (fun _ => 0))), (q_7, .inl (z_8, 401, .inl (fun _ => 0))), (q_9, .inl (z_10, 402, .inl (fun _ => 0)))] := hD
  refine lv_aload_n hx hb d_Tr_init_49 rfl (lv_at hl 0 rfl) ?_
  refine lv_iconst (v := 1) hx hb d_Tr_init_50 (by decide) ?_
  refine va_put (D := (dC, dI)) (ci := 4) (v := .int 1) (ty := .int) (C := R_Tr) (T := F_Tr) (N := 9) hx hb hw in_Tr t_Tr t_Tr_ok n_Tr hown hK hP hD hS 0 rfl rfl 8 (by decide) (hw (Cond.fieldLink "ClauseSearch$Trail" 28 "ClauseSearch$Trail" "lowest" "I") k_117) (fun _ h9 => h9) rfl (by decide +kernel) rfl rfl (Nat.le_of_ble_eq_true rfl) d_Tr_init_51 (fun H locs hP hD hS => ?_)
  have hP : va_P (dC, dI) vwCl [(h0, .inr (4, [.ref q_1, .ref q_3, .ref q_5, .ref q_7, .ref q_9, .int 0, .int 0, .int 0, .int 1])), (q_1, .inl (z_2, 802, .inl (fun _ => 0))), (q_3, .inl (z_4, 401, .inl (fun _ => 0))), (q_5, .inl (z_6, 401, .inl (fun _ => 0))), (q_7, .inl (z_8, 401, .inl (fun _ => 0))), (q_9, .inl (z_10, 402, .inl (fun _ => 0)))] H := hP
  have hD : va_D A [(h0, .inr (4, [.ref q_1, .ref q_3, .ref q_5, .ref q_7, .ref q_9, .int 0, .int 0, .int 0, .int 1])), (q_1, .inl (z_2, 802, .inl (fun _ => 0))), (q_3, .inl (z_4, 401, .inl (fun _ => 0))), (q_5, .inl (z_6, 401, .inl (fun _ => 0))), (q_7, .inl (z_8, 401, .inl (fun _ => 0))), (q_9, .inl (z_10, 402, .inl (fun _ => 0)))] := hD
  refine W.widen (k := 5) (n := 2407) (by decide) (by decide) ?_
  exact W.vret hx hb hr (fun t ht hW => ⟨⟨(), rfl, trivial, q_1, z_2, q_3, z_4, q_5, z_6, q_7, z_8, q_9, z_10, by rw [ht]; exact hP, va_K.moved hW.alike hK, hD⟩, hS.F ht⟩) hS.2.2 d_Tr_init_54
end
section
abbrev y_Ar_fill : MethodName := ⟨"java/util/Arrays", "fill", "([II)V"⟩
theorem d_Ar_fill_5 : decode prog_20_method_103_code 5 = .ok (.iload_n 2, 1) := by decide +kernel
theorem d_Ar_fill_6 : decode prog_20_method_103_code 6 = .ok (.iload_n 3, 1) := by decide +kernel
theorem d_Ar_fill_7 : decode prog_20_method_103_code 7 = .ok (.if_icmp .ge 13, 3) := by decide +kernel
theorem d_Ar_fill_10 : decode prog_20_method_103_code 10 = .ok (.aload_n 0, 1) := by decide +kernel
theorem d_Ar_fill_11 : decode prog_20_method_103_code 11 = .ok (.iload_n 2, 1) := by decide +kernel
theorem d_Ar_fill_12 : decode prog_20_method_103_code 12 = .ok (.iload_n 1, 1) := by decide +kernel
theorem d_Ar_fill_13 : decode prog_20_method_103_code 13 = .ok (.iastore, 1) := by decide +kernel
theorem d_Ar_fill_14 : decode prog_20_method_103_code 14 = .ok (.iinc 2 1, 3) := by decide +kernel
theorem d_Ar_fill_17 : decode prog_20_method_103_code 17 = .ok (.goto (-12), 3) := by decide +kernel
theorem d_Ar_fill_0 : decode prog_20_method_103_code 0 = .ok (.iconst 0, 1) := by decide +kernel
theorem d_Ar_fill_1 : decode prog_20_method_103_code 1 = .ok (.istore_n 2, 1) := by decide +kernel
theorem d_Ar_fill_2 : decode prog_20_method_103_code 2 = .ok (.aload_n 0, 1) := by decide +kernel
theorem d_Ar_fill_3 : decode prog_20_method_103_code 3 = .ok (.arraylength, 1) := by decide +kernel
theorem d_Ar_fill_4 : decode prog_20_method_103_code 4 = .ok (.istore_n 3, 1) := by decide +kernel
theorem d_Ar_fill_20 : decode prog_20_method_103_code 20 = .ok (.return_, 1) := by decide +kernel
theorem up_all {g : Nat → Int32} {i : Nat} {v : Int32} (hg : ∀ j, j < i → g j = v) : ∀ j, j < i + 1 → upd g i v j = v := by
  intro j hj
  by_cases hji : j = i
  · rw [hji]; exact pk_us
  · rw [pk_un hji]; exact hg j (by omega)
set_option maxHeartbeats 4000000 in
set_option maxRecDepth 100000 in
/-- the loop of Arrays.fill -/
theorem l_fill {p : Program} {l : Launch} {e : Env} {R : Room} {s : State} {m : MethodId} {args : Array Value} {below : List Frame} {meth : Method} {c : Code} {dC : Nat → ClassId} {dI : Nat → Nat → Nat} {A : Nat → Prop} {Q : State → Prop} {cells slots : Nat} {H0 : Heap} {h0 : Nat} {ca : ClassId} {n : Nat} {v : Int32} (hn : n < 2 ^ 31) (hx : p.tables.exec = Jvm.exec) (hb : c.code = prog_20_method_103_code) (hK : va_K (dC, dI) vwCl [(ca, .int)] s)
    (kk : ∀ (g : Nat → Int32) (H : Heap) (locs : List Loc) (ls : Array Slot), (∀ j, j < n → g j = v) → va_P (dC, dI) vwCl [(h0, .inl (ca, n, .inl g))] H → va_D A [(h0, .inl (ca, n, .inl g))] → va_S A H0 H locs → W p l e R s m args below meth c H locs cells slots Q (F0 m 20 ls [])) :
    ∀ (k i : Nat) (x : Int32) (g : Nat → Int32) (H : Heap) (locs : List Loc) (ls : Array Slot), i ≤ n → n + 1 ≤ i + k → x = nI i → (∀ j, j < i → g j = v) → va_P (dC, dI) vwCl [(h0, .inl (ca, n, .inl g))] H → va_D A [(h0, .inl (ca, n, .inl g))] → va_S A H0 H locs → lv_has ls 4 [(0, .ref h0), (1, .int v), (2, .int x), (3, .int (nI n))] → W p l e R s m args below meth c H locs cells slots Q (F0 m 5 ls []) := by
  intro k
  induction k with
  | zero => intro i x g H locs ls h1 h2; exact absurd h2 (by omega)
  | succ k ih =>
    intro i x g H locs ls hi hk ex hg hP hD hS hl
    refine lv_iload_n hx hb d_Ar_fill_5 rfl (lv_at hl 2 rfl) ?_
    refine lv_iload_n hx hb d_Ar_fill_6 rfl (lv_at hl 3 rfl) ?_
    refine lv_icmp_ge (tgt := 20) hx hb d_Ar_fill_7 (by decide) (fun c_7 => ?_) (fun c_7 => ?_)
    · exact kk g H locs ls (fun j hj => hg j (by have := c_7; rw [ex] at this; rcases Nat.lt_or_ge i n with q | q; exact absurd this (nI_ge q hn); omega)) hP hD hS
    · have hlt : i < n := by
        rcases Nat.lt_or_ge i n with q | q
        · exact q
        · exact absurd (by rw [ex]; exact nI_le q (by omega)) c_7
      refine lv_aload_n hx hb d_Ar_fill_10 rfl (lv_at hl 0 rfl) ?_
      refine lv_iload_n hx hb d_Ar_fill_11 rfl (lv_at hl 2 rfl) ?_
      refine lv_iload_n hx hb d_Ar_fill_12 rfl (lv_at hl 1 rfl) ?_
      refine va_iast hx hb hK hP hD hS 0 0 rfl rfl (by rw [ex]; exact vp_in_nI hlt hn) d_Ar_fill_13 (fun H locs hP hD hS => ?_)
      have hP : va_P (dC, dI) vwCl [(h0, .inl (ca, n, .inl (upd g ((x : Int32).toNatClampNeg) v)))] H := hP
      have hD : va_D A [(h0, .inl (ca, n, .inl (upd g ((x : Int32).toNatClampNeg) v)))] := hD
      obtain ⟨v_1, ev_1⟩ : ∃ y : Int32, y = x + 1 := ⟨_, rfl⟩
      refine lv_iinc (v := v_1) (lv' := [(2, .int v_1), (0, .ref h0), (1, .int v), (3, .int (nI n))]) hx hb d_Ar_fill_14 hl (k := 2) rfl (by rw [ev_1]; rfl) (by decide) rfl (fun ls hl => ?_)
      refine lv_goto (tgt := 5) hx hb d_Ar_fill_17 (by decide) ?_
      have hcl : x.toNatClampNeg = i := by rw [ex]; exact nI_clamp (by omega)
      rw [hcl] at hP hD
      exact ih (i + 1) _ (upd g i v) _ _ ls (by omega) (by omega) (by rw [ev_1, ex]; exact nI_1 i) (up_all hg) hP hD hS (lv_sub hl [1, 2, 0, 3] rfl)

set_option maxHeartbeats 4000000 in
set_option maxRecDepth 100000 in
/-- Arrays.fill(a, v): every place holds v -/
theorem c_Ar_fill (l : Launch) (dC : Nat → ClassId) (dI : Nat → Nat → Nat) (h0 : Nat) (ca : ClassId) (sz : Nat) (n : Nat) (f : Nat → Int32) (v : Int32) (hn : n < 2 ^ 31) : Met l y_Ar_fill (wq y_Ar_fill prog_20_method_103_code 4 none) ({ frames := 0, cells := 0, slots := 0, locals := 0 }) (va_Pc [.ref h0, .int v] (fun U => U.heap.size = sz ∧ va_P (dC, dI) vwCl [(h0, .inl (ca, n, .inl f))] U.heap ∧ va_K (dC, dI) vwCl [(ca, .int)] U ∧ va_D (fun _ => True) [(h0, .inl (ca, n, .inl f))])) (va_Qv (fun _ : Unit => True) (fun (_ : Unit) t => ∃ g : Nat → Int32, (∀ j, j < n → g j = v) ∧ va_P (dC, dI) vwCl [(h0, .inl (ca, n, .inl g))] t.heap ∧ va_K (dC, dI) vwCl [(ca, .int)] t ∧ va_D (va_A [(h0, .inl (ca, n, .inl f))] sz) [(h0, .inl (ca, n, .inl g))]) (va_A [(h0, .inl (ca, n, .inl f))] sz)) 0 0 (va_A [(h0, .inl (ca, n, .inl f))] sz) := by
  refine Met.ofW (cc := prog_20_method_103_code) (maxL := 4) (ret := none) (by decide) rfl ?_
  intro p e s m args below meth c s₁ B hml hv
  obtain ⟨rfl, hsz, hP, hK, hD0⟩ := hv
  have hx := B.exec
  have hb := B.bytes
  have hr := B.returns
  have hw : ∀ w ∈ bg_W, w.before #[Value.ref h0, Value.int v] s = true := fun w h => atoms_spec (ws := (wq y_Ar_fill prog_20_method_103_code 4 none)) B.pre w (List.mem_cons_of_mem _ h)
  have hown : s.vm.findClass R_Ar = some m.cls := findClass_of_methodNamed B.named
  have hlocks := B.notSynchronized
  subst hsz
  have hD := hD0.self (sz := s.heap.size)
  generalize hAe : va_A [(h0, .inl (ca, n, .inl f))] s.heap.size = A at hD ⊢
  have hA : ∀ q : Nat, s.heap.size ≤ q → A q := fun q h => by rw [← hAe]; exact Or.inr h
  have hS : va_S A s.heap s.heap [] := va_S.rf
  have hP : va_P (dC, dI) vwCl [(h0, .inl (ca, n, .inl f))] s.heap := hP
  have hl := lv_entry ([.ref h0, .int v]) (n := 4) (Nat.le_of_ble_eq_true rfl)
  rw [lg_entry_eq]
  generalize (lg_sl ([.ref h0, .int v]) ++ List.replicate (4 - (lg_sl ([.ref h0, .int v])).length) Slot.unset).toArray = ls at hl ⊢
  have hl : lv_has ls 4 [(0, .ref h0), (1, .int v)] := hl
  obtain ⟨H, hH⟩ : ∃ H : Heap, H = s.heap := ⟨_, rfl⟩
  rw [← hH] at hP
  have hS : va_S A s.heap H [] := by rw [hH]; exact va_S.rf
  show W p l e _ s m _ below meth c s.heap [] 0 0 _ _
  rw [← hH]
  refine lv_iconst (v := 0) hx hb d_Ar_fill_0 (by decide) ?_
  refine lv_istore_n (lv' := [(2, .int 0), (0, .ref h0), (1, .int v)]) hx hb d_Ar_fill_1 rfl hl (by decide) rfl (fun ls hl => ?_)
  refine lv_aload_n hx hb d_Ar_fill_2 rfl (lv_at hl 1 rfl) ?_
  refine va_alen hx hb hK hP 0 0 rfl rfl (v := nI n) rfl d_Ar_fill_3 ?_
  refine lv_istore_n (lv' := [(3, .int (nI n)), (2, .int 0), (0, .ref h0), (1, .int v)]) hx hb d_Ar_fill_4 rfl hl (by decide) rfl (fun ls hl => ?_)
  refine l_fill hn hx hb hK (fun g H locs ls hg hP hD hS => ?_) (n + 1) 0 0 f _ _ ls (Nat.zero_le n) (by omega) nI_0.symm (fun j hj => absurd hj (Nat.not_lt_zero j)) hP hD hS (lv_sub hl [2, 3, 1, 0] rfl)
  exact W.vret hx hb hr (fun t ht hW => ⟨⟨(), rfl, trivial, g, hg, by rw [ht]; exact hP, va_K.moved hW.alike hK, hD⟩, hS.F ht⟩) hS.2.2 d_Ar_fill_20
end
section
abbrev y_Wt_init : MethodName := ⟨"ClauseSearch$Watch", "<init>", "(LClauseSearch$Rows;LClauseSearch$Trail;)V"⟩
abbrev y_Ls_init : MethodName := ⟨"ClauseSearch$Lesson", "<init>", "(LClauseSearch$Rows;LClauseSearch$Trail;)V"⟩
abbrev y_Ck_init : MethodName := ⟨"ClauseSearch$Check", "<init>", "(LClauseSearch$Rows;)V"⟩
theorem k_32 : (Cond.initialized "ClauseSearch$Trail") ∈ bg_W := bg_in 32 (by decide +kernel) (by decide +kernel)
theorem k_34 : (Cond.initialized "java/util/Arrays") ∈ bg_W := bg_in 34 (by decide +kernel) (by decide +kernel)
theorem k_91 : (Cond.instantiable "ClauseSearch$Trail" 9) ∈ bg_W := bg_in 91 (by decide +kernel) (by decide +kernel)
theorem k_93 : (Cond.instanceMethod ⟨"ClauseSearch$Trail", "<init>", "()V"⟩) ∈ bg_W := bg_in 93 (by decide +kernel) (by decide +kernel)
theorem k_94 : (Cond.code ⟨"ClauseSearch$Trail", "<init>", "()V"⟩ prog_6_method_1_code 1 none) ∈ bg_W := bg_in 94 (by decide +kernel) (by decide +kernel)
theorem k_147 : (Cond.methodLink "ClauseSearch$Watch" 3 ⟨"java/lang/Object", "<init>", "()V"⟩) ∈ bg_W := bg_in 147 (by decide +kernel) (by decide +kernel)
theorem k_148 : (Cond.methodLink "ClauseSearch$Watch" 26 ⟨"java/util/Arrays", "fill", "([II)V"⟩) ∈ bg_W := bg_in 148 (by decide +kernel) (by decide +kernel)
theorem k_149 : (Cond.static ⟨"java/util/Arrays", "fill", "([II)V"⟩) ∈ bg_W := bg_in 149 (by decide +kernel) (by decide +kernel)
theorem k_150 : (Cond.code ⟨"java/util/Arrays", "fill", "([II)V"⟩ prog_20_method_103_code 4 none) ∈ bg_W := bg_in 150 (by decide +kernel) (by decide +kernel)
theorem k_151 : (Cond.fieldLink "ClauseSearch$Watch" 9 "ClauseSearch$Watch" "rows" "LClauseSearch$Rows;") ∈ bg_W := bg_in 151 (by decide +kernel) (by decide +kernel)
theorem k_152 : (Cond.fieldLink "ClauseSearch$Watch" 15 "ClauseSearch$Watch" "trail" "LClauseSearch$Trail;") ∈ bg_W := bg_in 152 (by decide +kernel) (by decide +kernel)
theorem k_153 : (Cond.fieldLink "ClauseSearch$Watch" 19 "ClauseSearch$Watch" "head" "[I") ∈ bg_W := bg_in 153 (by decide +kernel) (by decide +kernel)
theorem k_154 : (Cond.fieldLink "ClauseSearch$Watch" 23 "ClauseSearch$Watch" "next" "[I") ∈ bg_W := bg_in 154 (by decide +kernel) (by decide +kernel)
theorem k_169 : (Cond.methodLink "ClauseSearch$Lesson" 3 ⟨"java/lang/Object", "<init>", "()V"⟩) ∈ bg_W := bg_in 169 (by decide +kernel) (by decide +kernel)
theorem k_170 : (Cond.fieldLink "ClauseSearch$Lesson" 9 "ClauseSearch$Lesson" "rows" "LClauseSearch$Rows;") ∈ bg_W := bg_in 170 (by decide +kernel) (by decide +kernel)
theorem k_171 : (Cond.fieldLink "ClauseSearch$Lesson" 15 "ClauseSearch$Lesson" "trail" "LClauseSearch$Trail;") ∈ bg_W := bg_in 171 (by decide +kernel) (by decide +kernel)
theorem k_172 : (Cond.fieldLink "ClauseSearch$Lesson" 19 "ClauseSearch$Lesson" "seen" "[Z") ∈ bg_W := bg_in 172 (by decide +kernel) (by decide +kernel)
theorem k_173 : (Cond.fieldLink "ClauseSearch$Lesson" 23 "ClauseSearch$Lesson" "codes" "[I") ∈ bg_W := bg_in 173 (by decide +kernel) (by decide +kernel)
theorem k_176 : (Cond.fieldLink "ClauseSearch$Lesson" 27 "ClauseSearch$Lesson" "used" "[I") ∈ bg_W := bg_in 176 (by decide +kernel) (by decide +kernel)
theorem k_201 : (Cond.arrayClass .boolean) ∈ bg_W := bg_in 201 (by decide +kernel) (by decide +kernel)
theorem k_207 : (Cond.methodLink "ClauseSearch$Check" 3 ⟨"java/lang/Object", "<init>", "()V"⟩) ∈ bg_W := bg_in 207 (by decide +kernel) (by decide +kernel)
theorem k_208 : (Cond.classLink "ClauseSearch$Check" 15 "ClauseSearch$Trail") ∈ bg_W := bg_in 208 (by decide +kernel) (by decide +kernel)
theorem k_209 : (Cond.methodLink "ClauseSearch$Check" 17 ⟨"ClauseSearch$Trail", "<init>", "()V"⟩) ∈ bg_W := bg_in 209 (by decide +kernel) (by decide +kernel)
theorem k_210 : (Cond.fieldLink "ClauseSearch$Check" 9 "ClauseSearch$Check" "rows" "LClauseSearch$Rows;") ∈ bg_W := bg_in 210 (by decide +kernel) (by decide +kernel)
theorem k_211 : (Cond.fieldLink "ClauseSearch$Check" 18 "ClauseSearch$Check" "trail" "LClauseSearch$Trail;") ∈ bg_W := bg_in 211 (by decide +kernel) (by decide +kernel)
theorem d_Wt_init_0 : decode prog_7_method_1_code 0 = .ok (.aload_n 0, 1) := by decide +kernel
theorem d_Wt_init_1 : decode prog_7_method_1_code 1 = .ok (.invokespecial 3, 3) := by decide +kernel
theorem d_Wt_init_4 : decode prog_7_method_1_code 4 = .ok (.aload_n 0, 1) := by decide +kernel
theorem d_Wt_init_5 : decode prog_7_method_1_code 5 = .ok (.aload_n 1, 1) := by decide +kernel
theorem d_Wt_init_6 : decode prog_7_method_1_code 6 = .ok (.putfield 9, 3) := by decide +kernel
theorem d_Wt_init_9 : decode prog_7_method_1_code 9 = .ok (.aload_n 0, 1) := by decide +kernel
theorem d_Wt_init_10 : decode prog_7_method_1_code 10 = .ok (.aload_n 2, 1) := by decide +kernel
theorem d_Wt_init_11 : decode prog_7_method_1_code 11 = .ok (.putfield 15, 3) := by decide +kernel
theorem d_Wt_init_14 : decode prog_7_method_1_code 14 = .ok (.aload_n 0, 1) := by decide +kernel
theorem d_Wt_init_15 : decode prog_7_method_1_code 15 = .ok (.sipush 802, 3) := by decide +kernel
theorem d_Wt_init_18 : decode prog_7_method_1_code 18 = .ok (.newarray .int, 2) := by decide +kernel
theorem d_Wt_init_20 : decode prog_7_method_1_code 20 = .ok (.putfield 19, 3) := by decide +kernel
theorem d_Wt_init_23 : decode prog_7_method_1_code 23 = .ok (.aload_n 0, 1) := by decide +kernel
theorem d_Wt_init_24 : decode prog_7_method_1_code 24 = .ok (.sipush 128, 3) := by decide +kernel
theorem d_Wt_init_27 : decode prog_7_method_1_code 27 = .ok (.newarray .int, 2) := by decide +kernel
theorem d_Wt_init_29 : decode prog_7_method_1_code 29 = .ok (.putfield 23, 3) := by decide +kernel
theorem d_Wt_init_32 : decode prog_7_method_1_code 32 = .ok (.aload_n 0, 1) := by decide +kernel
theorem d_Wt_init_33 : decode prog_7_method_1_code 33 = .ok (.getfield 19, 3) := by decide +kernel
theorem d_Wt_init_36 : decode prog_7_method_1_code 36 = .ok (.iconst (-1), 1) := by decide +kernel
theorem d_Wt_init_37 : decode prog_7_method_1_code 37 = .ok (.invokestatic 26, 3) := by decide +kernel
theorem d_Wt_init_40 : decode prog_7_method_1_code 40 = .ok (.return_, 1) := by decide +kernel
theorem d_Ls_init_0 : decode prog_3_method_1_code 0 = .ok (.aload_n 0, 1) := by decide +kernel
theorem d_Ls_init_1 : decode prog_3_method_1_code 1 = .ok (.invokespecial 3, 3) := by decide +kernel
theorem d_Ls_init_4 : decode prog_3_method_1_code 4 = .ok (.aload_n 0, 1) := by decide +kernel
theorem d_Ls_init_5 : decode prog_3_method_1_code 5 = .ok (.aload_n 1, 1) := by decide +kernel
theorem d_Ls_init_6 : decode prog_3_method_1_code 6 = .ok (.putfield 9, 3) := by decide +kernel
theorem d_Ls_init_9 : decode prog_3_method_1_code 9 = .ok (.aload_n 0, 1) := by decide +kernel
theorem d_Ls_init_10 : decode prog_3_method_1_code 10 = .ok (.aload_n 2, 1) := by decide +kernel
theorem d_Ls_init_11 : decode prog_3_method_1_code 11 = .ok (.putfield 15, 3) := by decide +kernel
theorem d_Ls_init_14 : decode prog_3_method_1_code 14 = .ok (.aload_n 0, 1) := by decide +kernel
theorem d_Ls_init_15 : decode prog_3_method_1_code 15 = .ok (.sipush 401, 3) := by decide +kernel
theorem d_Ls_init_18 : decode prog_3_method_1_code 18 = .ok (.newarray .boolean, 2) := by decide +kernel
theorem d_Ls_init_20 : decode prog_3_method_1_code 20 = .ok (.putfield 19, 3) := by decide +kernel
theorem d_Ls_init_23 : decode prog_3_method_1_code 23 = .ok (.aload_n 0, 1) := by decide +kernel
theorem d_Ls_init_24 : decode prog_3_method_1_code 24 = .ok (.sipush 401, 3) := by decide +kernel
theorem d_Ls_init_27 : decode prog_3_method_1_code 27 = .ok (.newarray .int, 2) := by decide +kernel
theorem d_Ls_init_29 : decode prog_3_method_1_code 29 = .ok (.putfield 23, 3) := by decide +kernel
theorem d_Ls_init_32 : decode prog_3_method_1_code 32 = .ok (.aload_n 0, 1) := by decide +kernel
theorem d_Ls_init_33 : decode prog_3_method_1_code 33 = .ok (.sipush 401, 3) := by decide +kernel
theorem d_Ls_init_36 : decode prog_3_method_1_code 36 = .ok (.newarray .int, 2) := by decide +kernel
theorem d_Ls_init_38 : decode prog_3_method_1_code 38 = .ok (.putfield 27, 3) := by decide +kernel
theorem d_Ls_init_41 : decode prog_3_method_1_code 41 = .ok (.return_, 1) := by decide +kernel
theorem d_Ck_init_0 : decode prog_2_method_1_code 0 = .ok (.aload_n 0, 1) := by decide +kernel
theorem d_Ck_init_1 : decode prog_2_method_1_code 1 = .ok (.invokespecial 3, 3) := by decide +kernel
theorem d_Ck_init_4 : decode prog_2_method_1_code 4 = .ok (.aload_n 0, 1) := by decide +kernel
theorem d_Ck_init_5 : decode prog_2_method_1_code 5 = .ok (.aload_n 1, 1) := by decide +kernel
theorem d_Ck_init_6 : decode prog_2_method_1_code 6 = .ok (.putfield 9, 3) := by decide +kernel
theorem d_Ck_init_9 : decode prog_2_method_1_code 9 = .ok (.aload_n 0, 1) := by decide +kernel
theorem d_Ck_init_10 : decode prog_2_method_1_code 10 = .ok (.new 15, 3) := by decide +kernel
theorem d_Ck_init_13 : decode prog_2_method_1_code 13 = .ok (.dup, 1) := by decide +kernel
theorem d_Ck_init_14 : decode prog_2_method_1_code 14 = .ok (.invokespecial 17, 3) := by decide +kernel
theorem d_Ck_init_17 : decode prog_2_method_1_code 17 = .ok (.putfield 18, 3) := by decide +kernel
theorem d_Ck_init_20 : decode prog_2_method_1_code 20 = .ok (.return_, 1) := by decide +kernel
set_option maxHeartbeats 4000000 in
set_option maxRecDepth 100000 in
/-- Watch(rows, trail) -/
theorem c_Wt_init (l : Launch) (dC : Nat → ClassId) (dI : Nat → Nat → Nat) (h0 : Nat) (r0 : Nat) (r1 : Nat) (sz : Nat) : Met l y_Wt_init (wq y_Wt_init prog_7_method_1_code 3 none) ({ frames := 1, cells := 2, slots := 930, locals := 23 }) (va_Pc [.ref h0, .ref r0, .ref r1] (fun U => U.heap.size = sz ∧ va_P (dC, dI) vwCl [(h0, .inr (5, [.null, .null, .null, .null]))] U.heap ∧ va_K (dC, dI) vwCl [] U ∧ va_D (fun _ => True) [(h0, .inr (5, [.null, .null, .null, .null]))])) (va_Qv (fun _ : Unit => True) (fun (_ : Unit) t => ∃ (q_3 : Nat) (z_4 : ClassId) (q_1 : Nat) (z_2 : ClassId) (g_5 : Nat → Int32), (∀ j, j < 802 → g_5 j = -1) ∧ va_P (dC, dI) vwCl [(h0, .inr (5, [.ref r0, .ref r1, .ref q_1, .ref q_3])), (q_3, .inl (z_4, 128, .inl (fun _ => 0))), (q_1, .inl (z_2, 802, .inl g_5))] t.heap ∧ va_K (dC, dI) vwCl [(z_2, .int), (z_4, .int)] t ∧ va_D (va_A [(h0, .inr (5, [.null, .null, .null, .null]))] sz) [(h0, .inr (5, [.ref r0, .ref r1, .ref q_1, .ref q_3])), (q_3, .inl (z_4, 128, .inl (fun _ => 0))), (q_1, .inl (z_2, 802, .inl g_5))]) (va_A [(h0, .inr (5, [.null, .null, .null, .null]))] sz)) 2 930 (va_A [(h0, .inr (5, [.null, .null, .null, .null]))] sz) := by
  refine Met.ofW (cc := prog_7_method_1_code) (maxL := 3) (ret := none) (by decide) rfl ?_
  intro p e s m args below meth c s₁ B hml hv
  obtain ⟨rfl, hsz, hP, hK, hD0⟩ := hv
  have hx := B.exec
  have hb := B.bytes
  have hr := B.returns
  have hw : ∀ w ∈ bg_W, w.before #[Value.ref h0, Value.ref r0, Value.ref r1] s = true := fun w h => atoms_spec (ws := (wq y_Wt_init prog_7_method_1_code 3 none)) B.pre w (List.mem_cons_of_mem _ h)
  have hown : s.vm.findClass R_Wt = some m.cls := findClass_of_methodNamed B.named
  have hlocks := B.notSynchronized
  have hin : meth.name = "<init>" := (name_of_methodNamed B.named B.method).1
  subst hsz
  have hD := hD0.self (sz := s.heap.size)
  generalize hAe : va_A [(h0, .inr (5, [.null, .null, .null, .null]))] s.heap.size = A at hD ⊢
  have hA : ∀ q : Nat, s.heap.size ≤ q → A q := fun q h => by rw [← hAe]; exact Or.inr h
  have hS : va_S A s.heap s.heap [] := va_S.rf
  have hP : va_P (dC, dI) vwCl [(h0, .inr (5, [.null, .null, .null, .null]))] s.heap := hP
  have hl := lv_entry ([.ref h0, .ref r0, .ref r1]) (n := 3) (Nat.le_of_ble_eq_true rfl)
  rw [lg_entry_eq]
  generalize (lg_sl ([.ref h0, .ref r0, .ref r1]) ++ List.replicate (3 - (lg_sl ([.ref h0, .ref r0, .ref r1])).length) Slot.unset).toArray = ls at hl ⊢
  have hl : lv_has ls 3 [(0, .ref h0), (1, .ref r0), (2, .ref r1)] := hl
  obtain ⟨H, hH⟩ : ∃ H : Heap, H = s.heap := ⟨_, rfl⟩
  rw [← hH] at hP
  have hS : va_S A s.heap H [] := by rw [hH]; exact va_S.rf
  show W p l e _ s m _ below meth c s.heap [] 0 0 _ _
  rw [← hH]
  refine lv_aload_n hx hb d_Wt_init_0 rfl (lv_at hl 0 rfl) ?_
  refine W.objInit hx hb hown (hw (Cond.methodLink "ClauseSearch$Watch" 3 ⟨"java/lang/Object", "<init>", "()V"⟩) k_147) (hw (Cond.instanceMethod ⟨"java/lang/Object", "<init>", "()V"⟩) k_52) (hw (Cond.code ⟨"java/lang/Object", "<init>", "()V"⟩ object_method_1_code 1 none) k_53) rfl (by rw [hml]; exact hl.1) rfl d_Wt_init_1 (Nat.le_of_ble_eq_true rfl) (Nat.le_of_ble_eq_true rfl) ?_
  refine W.eq (g2 := F0 m 4 ls []) rfl ?_
  refine lv_aload_n hx hb d_Wt_init_4 rfl (lv_at hl 0 rfl) ?_
  refine lv_aload_n hx hb d_Wt_init_5 rfl (lv_at hl 1 rfl) ?_
  refine va_putF (D := (dC, dI)) (ci := 5) (v := .ref r0) (ty := .object "ClauseSearch$Rows") (C := R_Wt) (T := F_Wt) (N := 4) hx hb hw in_Wt t_Wt t_Wt_ok n_Wt hown hK hP hD hS 0 rfl rfl 0 (by decide) (hw (Cond.fieldLink "ClauseSearch$Watch" 9 "ClauseSearch$Watch" "rows" "LClauseSearch$Rows;") k_151) (fun _ h9 => h9) rfl hin rfl (by decide +kernel) rfl rfl (Nat.le_of_ble_eq_true rfl) d_Wt_init_6 (fun H locs hP hD hS => ?_)
  have hP : va_P (dC, dI) vwCl [(h0, .inr (5, [.ref r0, .null, .null, .null]))] H := hP
  have hD : va_D A [(h0, .inr (5, [.ref r0, .null, .null, .null]))] := hD
  refine lv_aload_n hx hb d_Wt_init_9 rfl (lv_at hl 0 rfl) ?_
  refine lv_aload_n hx hb d_Wt_init_10 rfl (lv_at hl 2 rfl) ?_
  refine va_putF (D := (dC, dI)) (ci := 5) (v := .ref r1) (ty := .object "ClauseSearch$Trail") (C := R_Wt) (T := F_Wt) (N := 4) hx hb hw in_Wt t_Wt t_Wt_ok n_Wt hown hK hP hD hS 0 rfl rfl 1 (by decide) (hw (Cond.fieldLink "ClauseSearch$Watch" 15 "ClauseSearch$Watch" "trail" "LClauseSearch$Trail;") k_152) (fun _ h9 => h9) rfl hin rfl (by decide +kernel) rfl rfl (Nat.le_of_ble_eq_true rfl) d_Wt_init_11 (fun H locs hP hD hS => ?_)
  have hP : va_P (dC, dI) vwCl [(h0, .inr (5, [.ref r0, .ref r1, .null, .null]))] H := hP
  have hD : va_D A [(h0, .inr (5, [.ref r0, .ref r1, .null, .null]))] := hD
  refine lv_aload_n hx hb d_Wt_init_14 rfl (lv_at hl 0 rfl) ?_
  refine lv_sipush (v := 802) hx hb d_Wt_init_15 (by decide) ?_
  refine va_newa (atype := .int) hx hb (hw (Cond.arrayClass .int) k_87) (ty := .int) rfl hK hP hD hS hA (n := 802) (N' := 802) (a0 := (802, .inl (fun _ => 0))) (fun _ => rfl) (by decide) (by decide) (by decide) (Nat.le_of_ble_eq_true rfl) (Nat.le_of_ble_eq_true rfl) d_Wt_init_18 (fun q_1 z_2 H hK hP hD hS => ?_)
  have hP : va_P (dC, dI) vwCl [(h0, .inr (5, [.ref r0, .ref r1, .null, .null])), (q_1, .inl (z_2, 802, .inl (fun _ => 0)))] H := hP
  have hD : va_D A [(h0, .inr (5, [.ref r0, .ref r1, .null, .null])), (q_1, .inl (z_2, 802, .inl (fun _ => 0)))] := hD
  have hK : va_K (dC, dI) vwCl [(z_2, .int)] s := hK
  refine W.widen (k := 1) (n := 802) (by decide) (by decide) ?_
  refine va_putF (D := (dC, dI)) (ci := 5) (v := .ref q_1) (ty := .array .int) (C := R_Wt) (T := F_Wt) (N := 4) hx hb hw in_Wt t_Wt t_Wt_ok n_Wt hown hK hP hD hS 0 rfl rfl 2 (by decide) (hw (Cond.fieldLink "ClauseSearch$Watch" 19 "ClauseSearch$Watch" "head" "[I") k_153) (fun _ h9 => h9) rfl hin rfl (by decide +kernel) rfl rfl (Nat.le_of_ble_eq_true rfl) d_Wt_init_20 (fun H locs hP hD hS => ?_)
  have hP : va_P (dC, dI) vwCl [(h0, .inr (5, [.ref r0, .ref r1, .ref q_1, .null])), (q_1, .inl (z_2, 802, .inl (fun _ => 0)))] H := hP
  have hD : va_D A [(h0, .inr (5, [.ref r0, .ref r1, .ref q_1, .null])), (q_1, .inl (z_2, 802, .inl (fun _ => 0)))] := hD
  refine lv_aload_n hx hb d_Wt_init_23 rfl (lv_at hl 0 rfl) ?_
  refine lv_sipush (v := 128) hx hb d_Wt_init_24 (by decide) ?_
  refine va_newa (atype := .int) hx hb (hw (Cond.arrayClass .int) k_87) (ty := .int) rfl hK hP hD hS hA (n := 128) (N' := 128) (a0 := (128, .inl (fun _ => 0))) (fun _ => rfl) (by decide) (by decide) (by decide) (Nat.le_of_ble_eq_true rfl) (Nat.le_of_ble_eq_true rfl) d_Wt_init_27 (fun q_3 z_4 H hK hP hD hS => ?_)
  have hP : va_P (dC, dI) vwCl [(h0, .inr (5, [.ref r0, .ref r1, .ref q_1, .null])), (q_1, .inl (z_2, 802, .inl (fun _ => 0))), (q_3, .inl (z_4, 128, .inl (fun _ => 0)))] H := hP
  have hD : va_D A [(h0, .inr (5, [.ref r0, .ref r1, .ref q_1, .null])), (q_1, .inl (z_2, 802, .inl (fun _ => 0))), (q_3, .inl (z_4, 128, .inl (fun _ => 0)))] := hD
  have hK : va_K (dC, dI) vwCl [(z_2, .int), (z_4, .int)] s := hK
  refine W.widen (k := 2) (n := 930) (by decide) (by decide) ?_
  refine va_put (D := (dC, dI)) (ci := 5) (v := .ref q_3) (ty := .array .int) (C := R_Wt) (T := F_Wt) (N := 4) hx hb hw in_Wt t_Wt t_Wt_ok n_Wt hown hK hP hD hS 0 rfl rfl 3 (by decide) (hw (Cond.fieldLink "ClauseSearch$Watch" 23 "ClauseSearch$Watch" "next" "[I") k_154) (fun _ h9 => h9) rfl (by decide +kernel) rfl rfl (Nat.le_of_ble_eq_true rfl) d_Wt_init_29 (fun H locs hP hD hS => ?_)
  have hP : va_P (dC, dI) vwCl [(h0, .inr (5, [.ref r0, .ref r1, .ref q_1, .ref q_3])), (q_1, .inl (z_2, 802, .inl (fun _ => 0))), (q_3, .inl (z_4, 128, .inl (fun _ => 0)))] H := hP
  have hD : va_D A [(h0, .inr (5, [.ref r0, .ref r1, .ref q_1, .ref q_3])), (q_1, .inl (z_2, 802, .inl (fun _ => 0))), (q_3, .inl (z_4, 128, .inl (fun _ => 0)))] := hD
  refine lv_aload_n hx hb d_Wt_init_32 rfl (lv_at hl 0 rfl) ?_
  refine va_get (D := (dC, dI)) (ci := 5) (v := .ref q_1) (C := R_Wt) (T := F_Wt) (N := 4) hx hb hw in_Wt hown hK hP 0 rfl rfl 2 (by decide) (hw (Cond.fieldLink "ClauseSearch$Watch" 19 "ClauseSearch$Watch" "head" "[I") k_153) (fun _ h9 => h9) rfl d_Wt_init_33 ?_
  refine lv_iconst (v := (-1)) hx hb d_Wt_init_36 (by decide) ?_
  have hPc := hP.sub (ws' := [(q_1, .inl (z_2, 802, .inl (fun _ => 0)))]) [1] rfl
  have hDc := hD.sub (ws' := [(q_1, .inl (z_2, 802, .inl (fun _ => 0)))]) [1] (by decide) rfl
  have hKc := hK.sub (tys' := [(z_2, .int)]) [0] rfl
  have hFc := va_free (wc := [(q_1, .inl (z_2, 802, .inl (fun _ => 0)))]) hD hS hA [1] rfl
  refine va_callv (va_runS (As := [.ref q_1, .int (-1)]) (rest := []) ⟨hx, hb, hml, hown, hw⟩ (c_Ar_fill l dC dI q_1 z_2 H.size 802 (fun _ => 0) (-1) (by decide)) (cb_S 2 hw k_150 k_34 k_148 k_149 rfl rfl (by decide +kernel) ⟨Nat.le_of_ble_eq_true rfl, Nat.le_of_ble_eq_true rfl⟩) ⟨fun a U g mk q => by obtain ⟨q0, q1, qP, qK, qD⟩ := q; exact ⟨q0, q1, qP, va_K.moved (u := U) (U := U.calling g mk a) (Vm.Alike.refl U.vm) qK, qD⟩, fun U hU hW => ⟨rfl, by rw [hU], by rw [hU]; exact hPc, va_K.moved hW.alike hKc, hDc.weaken (fun _ _ _ _ => trivial)⟩⟩ rfl rfl hl.1 rfl (lv_room (Nat.le_of_ble_eq_true rfl)) d_Wt_init_37 ⟨Nat.le_of_ble_eq_true rfl, Nat.le_of_ble_eq_true rfl⟩) hS (fun q _ h => hFc q h) hFc (fun u t H1 locs ht hvm hw9 hB hz1 hk1 hS => ?_)
  obtain ⟨g_5, f_6, hP1, hK1, hD1⟩ := hB
  rw [ht] at hP1
  have hK1 := va_K.moved hvm.symm hK1
  obtain ⟨hP, hD⟩ := va_join (wr := [(h0, .inr (5, [.ref r0, .ref r1, .ref q_1, .ref q_3])), (q_3, .inl (z_4, 128, .inl (fun _ => 0)))]) (w1 := [(q_1, .inl (z_2, 802, .inl g_5))]) hP hD [1] [0, 2] rfl rfl (by decide) (by decide) hk1 hFc hP1 hD1
  generalize H1 = H at hP hS ⊢
  have hP : va_P (dC, dI) vwCl [(h0, .inr (5, [.ref r0, .ref r1, .ref q_1, .ref q_3])), (q_3, .inl (z_4, 128, .inl (fun _ => 0))), (q_1, .inl (z_2, 802, .inl g_5))] H := hP
  have hD : va_D A [(h0, .inr (5, [.ref r0, .ref r1, .ref q_1, .ref q_3])), (q_3, .inl (z_4, 128, .inl (fun _ => 0))), (q_1, .inl (z_2, 802, .inl g_5))] := hD
  refine W.widen (k := 2) (n := 930) (by decide) (by decide) ?_
  refine W.widen (k := 2) (n := 930) (by decide) (by decide) ?_
  exact W.vret hx hb hr (fun t ht hW => ⟨⟨(), rfl, trivial, q_3, z_4, q_1, z_2, g_5, f_6, by rw [ht]; exact hP, va_K.moved hW.alike hK, hD⟩, hS.F ht⟩) hS.2.2 d_Wt_init_40

set_option maxHeartbeats 4000000 in
set_option maxRecDepth 100000 in
/-- Lesson(rows, trail) -/
theorem c_Ls_init (l : Launch) (dC : Nat → ClassId) (dI : Nat → Nat → Nat) (h0 : Nat) (r0 : Nat) (r1 : Nat) (sz : Nat) : Met l y_Ls_init (wq y_Ls_init prog_3_method_1_code 3 none) ({ frames := 1, cells := 3, slots := 1203, locals := 12 }) (va_Pc [.ref h0, .ref r0, .ref r1] (fun U => U.heap.size = sz ∧ va_P (dC, dI) vwCl [(h0, .inr (1, [.null, .null, .null, .null, .null, .int 0, .int 0, .int 0]))] U.heap ∧ va_K (dC, dI) vwCl [] U ∧ va_D (fun _ => True) [(h0, .inr (1, [.null, .null, .null, .null, .null, .int 0, .int 0, .int 0]))])) (va_Qv (fun _ : Unit => True) (fun (_ : Unit) t => ∃ (q_1 : Nat) (z_2 : ClassId) (q_3 : Nat) (z_4 : ClassId) (q_5 : Nat) (z_6 : ClassId), va_P (dC, dI) vwCl [(h0, .inr (1, [.ref r0, .ref r1, .ref q_1, .ref q_3, .ref q_5, .int 0, .int 0, .int 0])), (q_1, .inl (z_2, 401, .inl (fun _ => 0))), (q_3, .inl (z_4, 401, .inl (fun _ => 0))), (q_5, .inl (z_6, 401, .inl (fun _ => 0)))] t.heap ∧ va_K (dC, dI) vwCl [(z_2, .boolean), (z_4, .int), (z_6, .int)] t ∧ va_D (va_A [(h0, .inr (1, [.null, .null, .null, .null, .null, .int 0, .int 0, .int 0]))] sz) [(h0, .inr (1, [.ref r0, .ref r1, .ref q_1, .ref q_3, .ref q_5, .int 0, .int 0, .int 0])), (q_1, .inl (z_2, 401, .inl (fun _ => 0))), (q_3, .inl (z_4, 401, .inl (fun _ => 0))), (q_5, .inl (z_6, 401, .inl (fun _ => 0)))]) (va_A [(h0, .inr (1, [.null, .null, .null, .null, .null, .int 0, .int 0, .int 0]))] sz)) 3 1203 (va_A [(h0, .inr (1, [.null, .null, .null, .null, .null, .int 0, .int 0, .int 0]))] sz) := by
  refine Met.ofW (cc := prog_3_method_1_code) (maxL := 3) (ret := none) (by decide) rfl ?_
  intro p e s m args below meth c s₁ B hml hv
  obtain ⟨rfl, hsz, hP, hK, hD0⟩ := hv
  have hx := B.exec
  have hb := B.bytes
  have hr := B.returns
  have hw : ∀ w ∈ bg_W, w.before #[Value.ref h0, Value.ref r0, Value.ref r1] s = true := fun w h => atoms_spec (ws := (wq y_Ls_init prog_3_method_1_code 3 none)) B.pre w (List.mem_cons_of_mem _ h)
  have hown : s.vm.findClass R_Ls = some m.cls := findClass_of_methodNamed B.named
  have hlocks := B.notSynchronized
  have hin : meth.name = "<init>" := (name_of_methodNamed B.named B.method).1
  subst hsz
  have hD := hD0.self (sz := s.heap.size)
  generalize hAe : va_A [(h0, .inr (1, [.null, .null, .null, .null, .null, .int 0, .int 0, .int 0]))] s.heap.size = A at hD ⊢
  have hA : ∀ q : Nat, s.heap.size ≤ q → A q := fun q h => by rw [← hAe]; exact Or.inr h
  have hS : va_S A s.heap s.heap [] := va_S.rf
  have hP : va_P (dC, dI) vwCl [(h0, .inr (1, [.null, .null, .null, .null, .null, .int 0, .int 0, .int 0]))] s.heap := hP
  have hl := lv_entry ([.ref h0, .ref r0, .ref r1]) (n := 3) (Nat.le_of_ble_eq_true rfl)
  rw [lg_entry_eq]
  generalize (lg_sl ([.ref h0, .ref r0, .ref r1]) ++ List.replicate (3 - (lg_sl ([.ref h0, .ref r0, .ref r1])).length) Slot.unset).toArray = ls at hl ⊢
  have hl : lv_has ls 3 [(0, .ref h0), (1, .ref r0), (2, .ref r1)] := hl
  obtain ⟨H, hH⟩ : ∃ H : Heap, H = s.heap := ⟨_, rfl⟩
  rw [← hH] at hP
  have hS : va_S A s.heap H [] := by rw [hH]; exact va_S.rf
  show W p l e _ s m _ below meth c s.heap [] 0 0 _ _
  rw [← hH]
  refine lv_aload_n hx hb d_Ls_init_0 rfl (lv_at hl 0 rfl) ?_
  refine W.objInit hx hb hown (hw (Cond.methodLink "ClauseSearch$Lesson" 3 ⟨"java/lang/Object", "<init>", "()V"⟩) k_169) (hw (Cond.instanceMethod ⟨"java/lang/Object", "<init>", "()V"⟩) k_52) (hw (Cond.code ⟨"java/lang/Object", "<init>", "()V"⟩ object_method_1_code 1 none) k_53) rfl (by rw [hml]; exact hl.1) rfl d_Ls_init_1 (Nat.le_of_ble_eq_true rfl) (Nat.le_of_ble_eq_true rfl) ?_
  refine W.eq (g2 := F0 m 4 ls []) rfl ?_
  refine lv_aload_n hx hb d_Ls_init_4 rfl (lv_at hl 0 rfl) ?_
  refine lv_aload_n hx hb d_Ls_init_5 rfl (lv_at hl 1 rfl) ?_
  refine va_putF (D := (dC, dI)) (ci := 1) (v := .ref r0) (ty := .object "ClauseSearch$Rows") (C := R_Ls) (T := F_Ls) (N := 8) hx hb hw in_Ls t_Ls t_Ls_ok n_Ls hown hK hP hD hS 0 rfl rfl 0 (by decide) (hw (Cond.fieldLink "ClauseSearch$Lesson" 9 "ClauseSearch$Lesson" "rows" "LClauseSearch$Rows;") k_170) (fun _ h9 => h9) rfl hin rfl (by decide +kernel) rfl rfl (Nat.le_of_ble_eq_true rfl) d_Ls_init_6 (fun H locs hP hD hS => ?_)
  have hP : va_P (dC, dI) vwCl [(h0, .inr (1, [.ref r0, .null, .null, .null, .null, .int 0, .int 0, .int 0]))] H := hP
  have hD : va_D A [(h0, .inr (1, [.ref r0, .null, .null, .null, .null, .int 0, .int 0, .int 0]))] := hD
  refine lv_aload_n hx hb d_Ls_init_9 rfl (lv_at hl 0 rfl) ?_
  refine lv_aload_n hx hb d_Ls_init_10 rfl (lv_at hl 2 rfl) ?_
  refine va_putF (D := (dC, dI)) (ci := 1) (v := .ref r1) (ty := .object "ClauseSearch$Trail") (C := R_Ls) (T := F_Ls) (N := 8) hx hb hw in_Ls t_Ls t_Ls_ok n_Ls hown hK hP hD hS 0 rfl rfl 1 (by decide) (hw (Cond.fieldLink "ClauseSearch$Lesson" 15 "ClauseSearch$Lesson" "trail" "LClauseSearch$Trail;") k_171) (fun _ h9 => h9) rfl hin rfl (by decide +kernel) rfl rfl (Nat.le_of_ble_eq_true rfl) d_Ls_init_11 (fun H locs hP hD hS => ?_)
  have hP : va_P (dC, dI) vwCl [(h0, .inr (1, [.ref r0, .ref r1, .null, .null, .null, .int 0, .int 0, .int 0]))] H := hP
  have hD : va_D A [(h0, .inr (1, [.ref r0, .ref r1, .null, .null, .null, .int 0, .int 0, .int 0]))] := hD
  refine lv_aload_n hx hb d_Ls_init_14 rfl (lv_at hl 0 rfl) ?_
  refine lv_sipush (v := 401) hx hb d_Ls_init_15 (by decide) ?_
  refine va_newa (atype := .boolean) hx hb (hw (Cond.arrayClass .boolean) k_201) (ty := .boolean) rfl hK hP hD hS hA (n := 401) (N' := 401) (a0 := (401, .inl (fun _ => 0))) (fun _ => rfl) (by decide) (by decide) (by decide) (Nat.le_of_ble_eq_true rfl) (Nat.le_of_ble_eq_true rfl) d_Ls_init_18 (fun q_1 z_2 H hK hP hD hS => ?_)
  have hP : va_P (dC, dI) vwCl [(h0, .inr (1, [.ref r0, .ref r1, .null, .null, .null, .int 0, .int 0, .int 0])), (q_1, .inl (z_2, 401, .inl (fun _ => 0)))] H := hP
  have hD : va_D A [(h0, .inr (1, [.ref r0, .ref r1, .null, .null, .null, .int 0, .int 0, .int 0])), (q_1, .inl (z_2, 401, .inl (fun _ => 0)))] := hD
  have hK : va_K (dC, dI) vwCl [(z_2, .boolean)] s := hK
  refine W.widen (k := 1) (n := 401) (by decide) (by decide) ?_
  refine va_putF (D := (dC, dI)) (ci := 1) (v := .ref q_1) (ty := .array .boolean) (C := R_Ls) (T := F_Ls) (N := 8) hx hb hw in_Ls t_Ls t_Ls_ok n_Ls hown hK hP hD hS 0 rfl rfl 2 (by decide) (hw (Cond.fieldLink "ClauseSearch$Lesson" 19 "ClauseSearch$Lesson" "seen" "[Z") k_172) (fun _ h9 => h9) rfl hin rfl (by decide +kernel) rfl rfl (Nat.le_of_ble_eq_true rfl) d_Ls_init_20 (fun H locs hP hD hS => ?_)
  have hP : va_P (dC, dI) vwCl [(h0, .inr (1, [.ref r0, .ref r1, .ref q_1, .null, .null, .int 0, .int 0, .int 0])), (q_1, .inl (z_2, 401, .inl (fun _ => 0)))] H := hP
  have hD : va_D A [(h0, .inr (1, [.ref r0, .ref r1, .ref q_1, .null, .null, .int 0, .int 0, .int 0])), (q_1, .inl (z_2, 401, .inl (fun _ => 0)))] := hD
  refine lv_aload_n hx hb d_Ls_init_23 rfl (lv_at hl 0 rfl) ?_
  refine lv_sipush (v := 401) hx hb d_Ls_init_24 (by decide) ?_
  refine va_newa (atype := .int) hx hb (hw (Cond.arrayClass .int) k_87) (ty := .int) rfl hK hP hD hS hA (n := 401) (N' := 401) (a0 := (401, .inl (fun _ => 0))) (fun _ => rfl) (by decide) (by decide) (by decide) (Nat.le_of_ble_eq_true rfl) (Nat.le_of_ble_eq_true rfl) d_Ls_init_27 (fun q_3 z_4 H hK hP hD hS => ?_)
  have hP : va_P (dC, dI) vwCl [(h0, .inr (1, [.ref r0, .ref r1, .ref q_1, .null, .null, .int 0, .int 0, .int 0])), (q_1, .inl (z_2, 401, .inl (fun _ => 0))), (q_3, .inl (z_4, 401, .inl (fun _ => 0)))] H := hP
  have hD : va_D A [(h0, .inr (1, [.ref r0, .ref r1, .ref q_1, .null, .null, .int 0, .int 0, .int 0])), (q_1, .inl (z_2, 401, .inl (fun _ => 0))), (q_3, .inl (z_4, 401, .inl (fun _ => 0)))] := hD
  have hK : va_K (dC, dI) vwCl [(z_2, .boolean), (z_4, .int)] s := hK
  refine W.widen (k := 2) (n := 802) (by decide) (by decide) ?_
  refine va_putF (D := (dC, dI)) (ci := 1) (v := .ref q_3) (ty := .array .int) (C := R_Ls) (T := F_Ls) (N := 8) hx hb hw in_Ls t_Ls t_Ls_ok n_Ls hown hK hP hD hS 0 rfl rfl 3 (by decide) (hw (Cond.fieldLink "ClauseSearch$Lesson" 23 "ClauseSearch$Lesson" "codes" "[I") k_173) (fun _ h9 => h9) rfl hin rfl (by decide +kernel) rfl rfl (Nat.le_of_ble_eq_true rfl) d_Ls_init_29 (fun H locs hP hD hS => ?_)
  have hP : va_P (dC, dI) vwCl [(h0, .inr (1, [.ref r0, .ref r1, .ref q_1, .ref q_3, .null, .int 0, .int 0, .int 0])), (q_1, .inl (z_2, 401, .inl (fun _ => 0))), (q_3, .inl (z_4, 401, .inl (fun _ => 0)))] H := hP
  have hD : va_D A [(h0, .inr (1, [.ref r0, .ref r1, .ref q_1, .ref q_3, .null, .int 0, .int 0, .int 0])), (q_1, .inl (z_2, 401, .inl (fun _ => 0))), (q_3, .inl (z_4, 401, .inl (fun _ => 0)))] := hD
  refine lv_aload_n hx hb d_Ls_init_32 rfl (lv_at hl 0 rfl) ?_
  refine lv_sipush (v := 401) hx hb d_Ls_init_33 (by decide) ?_
  refine va_newa (atype := .int) hx hb (hw (Cond.arrayClass .int) k_87) (ty := .int) rfl hK hP hD hS hA (n := 401) (N' := 401) (a0 := (401, .inl (fun _ => 0))) (fun _ => rfl) (by decide) (by decide) (by decide) (Nat.le_of_ble_eq_true rfl) (Nat.le_of_ble_eq_true rfl) d_Ls_init_36 (fun q_5 z_6 H hK hP hD hS => ?_)
  have hP : va_P (dC, dI) vwCl [(h0, .inr (1, [.ref r0, .ref r1, .ref q_1, .ref q_3, .null, .int 0, .int 0, .int 0])), (q_1, .inl (z_2, 401, .inl (fun _ => 0))), (q_3, .inl (z_4, 401, .inl (fun _ => 0))), (q_5, .inl (z_6, 401, .inl (fun _ => 0)))] H := hP
  have hD : va_D A [(h0, .inr (1, [.ref r0, .ref r1, .ref q_1, .ref q_3, .null, .int 0, .int 0, .int 0])), (q_1, .inl (z_2, 401, .inl (fun _ => 0))), (q_3, .inl (z_4, 401, .inl (fun _ => 0))), (q_5, .inl (z_6, 401, .inl (fun _ => 0)))] := hD
  have hK : va_K (dC, dI) vwCl [(z_2, .boolean), (z_4, .int), (z_6, .int)] s := hK
  refine W.widen (k := 3) (n := 1203) (by decide) (by decide) ?_
  refine va_putF (D := (dC, dI)) (ci := 1) (v := .ref q_5) (ty := .array .int) (C := R_Ls) (T := F_Ls) (N := 8) hx hb hw in_Ls t_Ls t_Ls_ok n_Ls hown hK hP hD hS 0 rfl rfl 4 (by decide) (hw (Cond.fieldLink "ClauseSearch$Lesson" 27 "ClauseSearch$Lesson" "used" "[I") k_176) (fun _ h9 => h9) rfl hin rfl (by decide +kernel) rfl rfl (Nat.le_of_ble_eq_true rfl) d_Ls_init_38 (fun H locs hP hD hS => ?_)
  have hP : va_P (dC, dI) vwCl [(h0, .inr (1, [.ref r0, .ref r1, .ref q_1, .ref q_3, .ref q_5, .int 0, .int 0, .int 0])), (q_1, .inl (z_2, 401, .inl (fun _ => 0))), (q_3, .inl (z_4, 401, .inl (fun _ => 0))), (q_5, .inl (z_6, 401, .inl (fun _ => 0)))] H := hP
  have hD : va_D A [(h0, .inr (1, [.ref r0, .ref r1, .ref q_1, .ref q_3, .ref q_5, .int 0, .int 0, .int 0])), (q_1, .inl (z_2, 401, .inl (fun _ => 0))), (q_3, .inl (z_4, 401, .inl (fun _ => 0))), (q_5, .inl (z_6, 401, .inl (fun _ => 0)))] := hD
  refine W.widen (k := 3) (n := 1203) (by decide) (by decide) ?_
  exact W.vret hx hb hr (fun t ht hW => ⟨⟨(), rfl, trivial, q_1, z_2, q_3, z_4, q_5, z_6, by rw [ht]; exact hP, va_K.moved hW.alike hK, hD⟩, hS.F ht⟩) hS.2.2 d_Ls_init_41

set_option maxHeartbeats 4000000 in
set_option maxRecDepth 100000 in
/-- Check(rows) -/
theorem c_Ck_init (l : Launch) (dC : Nat → ClassId) (dI : Nat → Nat → Nat) (h0 : Nat) (r0 : Nat) (sz : Nat) : Met l y_Ck_init (wq y_Ck_init prog_2_method_1_code 2 none) ({ frames := 2, cells := 6, slots := 2416, locals := 32 }) (va_Pc [.ref h0, .ref r0] (fun U => U.heap.size = sz ∧ va_P (dC, dI) vwCl [(h0, .inr (0, [.null, .null]))] U.heap ∧ va_K (dC, dI) vwCl [] U ∧ va_D (fun _ => True) [(h0, .inr (0, [.null, .null]))])) (va_Qv (fun _ : Unit => True) (fun (_ : Unit) t => ∃ (q_1 : Nat) (q_2 : Nat) (z_3 : ClassId) (q_4 : Nat) (z_5 : ClassId) (q_6 : Nat) (z_7 : ClassId) (q_8 : Nat) (z_9 : ClassId) (q_10 : Nat) (z_11 : ClassId), va_P (dC, dI) vwCl [(h0, .inr (0, [.ref r0, .ref q_1])), (q_1, .inr (4, [.ref q_2, .ref q_4, .ref q_6, .ref q_8, .ref q_10, .int 0, .int 0, .int 0, .int 1])), (q_2, .inl (z_3, 802, .inl (fun _ => 0))), (q_4, .inl (z_5, 401, .inl (fun _ => 0))), (q_6, .inl (z_7, 401, .inl (fun _ => 0))), (q_8, .inl (z_9, 401, .inl (fun _ => 0))), (q_10, .inl (z_11, 402, .inl (fun _ => 0)))] t.heap ∧ va_K (dC, dI) vwCl [(z_3, .byte), (z_5, .int), (z_7, .int), (z_9, .int), (z_11, .int)] t ∧ va_D (va_A [(h0, .inr (0, [.null, .null]))] sz) [(h0, .inr (0, [.ref r0, .ref q_1])), (q_1, .inr (4, [.ref q_2, .ref q_4, .ref q_6, .ref q_8, .ref q_10, .int 0, .int 0, .int 0, .int 1])), (q_2, .inl (z_3, 802, .inl (fun _ => 0))), (q_4, .inl (z_5, 401, .inl (fun _ => 0))), (q_6, .inl (z_7, 401, .inl (fun _ => 0))), (q_8, .inl (z_9, 401, .inl (fun _ => 0))), (q_10, .inl (z_11, 402, .inl (fun _ => 0)))]) (va_A [(h0, .inr (0, [.null, .null]))] sz)) 6 2416 (va_A [(h0, .inr (0, [.null, .null]))] sz) := by
  refine Met.ofW (cc := prog_2_method_1_code) (maxL := 2) (ret := none) (by decide) rfl ?_
  intro p e s m args below meth c s₁ B hml hv
  obtain ⟨rfl, hsz, hP, hK, hD0⟩ := hv
  have hx := B.exec
  have hb := B.bytes
  have hr := B.returns
  have hw : ∀ w ∈ bg_W, w.before #[Value.ref h0, Value.ref r0] s = true := fun w h => atoms_spec (ws := (wq y_Ck_init prog_2_method_1_code 2 none)) B.pre w (List.mem_cons_of_mem _ h)
  have hown : s.vm.findClass R_Ck = some m.cls := findClass_of_methodNamed B.named
  have hlocks := B.notSynchronized
  have hin : meth.name = "<init>" := (name_of_methodNamed B.named B.method).1
  subst hsz
  have hD := hD0.self (sz := s.heap.size)
  generalize hAe : va_A [(h0, .inr (0, [.null, .null]))] s.heap.size = A at hD ⊢
  have hA : ∀ q : Nat, s.heap.size ≤ q → A q := fun q h => by rw [← hAe]; exact Or.inr h
  have hS : va_S A s.heap s.heap [] := va_S.rf
  have hP : va_P (dC, dI) vwCl [(h0, .inr (0, [.null, .null]))] s.heap := hP
  have hl := lv_entry ([.ref h0, .ref r0]) (n := 2) (Nat.le_of_ble_eq_true rfl)
  rw [lg_entry_eq]
  generalize (lg_sl ([.ref h0, .ref r0]) ++ List.replicate (2 - (lg_sl ([.ref h0, .ref r0])).length) Slot.unset).toArray = ls at hl ⊢
  have hl : lv_has ls 2 [(0, .ref h0), (1, .ref r0)] := hl
  obtain ⟨H, hH⟩ : ∃ H : Heap, H = s.heap := ⟨_, rfl⟩
  rw [← hH] at hP
  have hS : va_S A s.heap H [] := by rw [hH]; exact va_S.rf
  show W p l e _ s m _ below meth c s.heap [] 0 0 _ _
  rw [← hH]
  refine lv_aload_n hx hb d_Ck_init_0 rfl (lv_at hl 0 rfl) ?_
  refine W.objInit hx hb hown (hw (Cond.methodLink "ClauseSearch$Check" 3 ⟨"java/lang/Object", "<init>", "()V"⟩) k_207) (hw (Cond.instanceMethod ⟨"java/lang/Object", "<init>", "()V"⟩) k_52) (hw (Cond.code ⟨"java/lang/Object", "<init>", "()V"⟩ object_method_1_code 1 none) k_53) rfl (by rw [hml]; exact hl.1) rfl d_Ck_init_1 (Nat.le_of_ble_eq_true rfl) (Nat.le_of_ble_eq_true rfl) ?_
  refine W.eq (g2 := F0 m 4 ls []) rfl ?_
  refine lv_aload_n hx hb d_Ck_init_4 rfl (lv_at hl 0 rfl) ?_
  refine lv_aload_n hx hb d_Ck_init_5 rfl (lv_at hl 1 rfl) ?_
  refine va_putF (D := (dC, dI)) (ci := 0) (v := .ref r0) (ty := .object "ClauseSearch$Rows") (C := R_Ck) (T := F_Ck) (N := 2) hx hb hw in_Ck t_Ck t_Ck_ok n_Ck hown hK hP hD hS 0 rfl rfl 0 (by decide) (hw (Cond.fieldLink "ClauseSearch$Check" 9 "ClauseSearch$Check" "rows" "LClauseSearch$Rows;") k_210) (fun _ h9 => h9) rfl hin rfl (by decide +kernel) rfl rfl (Nat.le_of_ble_eq_true rfl) d_Ck_init_6 (fun H locs hP hD hS => ?_)
  have hP : va_P (dC, dI) vwCl [(h0, .inr (0, [.ref r0, .null]))] H := hP
  have hD : va_D A [(h0, .inr (0, [.ref r0, .null]))] := hD
  refine lv_aload_n hx hb d_Ck_init_9 rfl (lv_at hl 0 rfl) ?_
  refine va_new (ci := 4) (fs := [.null, .null, .null, .null, .null, .int 0, .int 0, .int 0, .int 0]) (C := R_Tr) (T := F_Tr) (N := 9) hx hb hw in_Tr t_Tr t_Tr_ok hown (hw (Cond.classLink "ClauseSearch$Check" 15 "ClauseSearch$Trail") k_208) (hw (Cond.instantiable "ClauseSearch$Trail" 9) k_91) (hw (Cond.initialized "ClauseSearch$Trail") k_32) hK hP hD hS hA rfl (fun j hj => by rcases (show j = 0 ∨ j = 1 ∨ j = 2 ∨ j = 3 ∨ j = 4 ∨ j = 5 ∨ j = 6 ∨ j = 7 ∨ j = 8 by omega) with rfl | rfl | rfl | rfl | rfl | rfl | rfl | rfl | rfl <;> rfl) (Nat.le_of_ble_eq_true rfl) (Nat.le_of_ble_eq_true rfl) d_Ck_init_10 (fun q_1 H hP hD hS => ?_)
  have hP : va_P (dC, dI) vwCl [(h0, .inr (0, [.ref r0, .null])), (q_1, .inr (4, [.null, .null, .null, .null, .null, .int 0, .int 0, .int 0, .int 0]))] H := hP
  have hD : va_D A [(h0, .inr (0, [.ref r0, .null])), (q_1, .inr (4, [.null, .null, .null, .null, .null, .int 0, .int 0, .int 0, .int 0]))] := hD
  refine W.widen (k := 1) (n := 9) (by decide) (by decide) ?_
  refine lv_dup hx hb d_Ck_init_13 rfl ?_
  have hPc := hP.sub (ws' := [(q_1, .inr (4, [.null, .null, .null, .null, .null, .int 0, .int 0, .int 0, .int 0]))]) [1] rfl
  have hDc := hD.sub (ws' := [(q_1, .inr (4, [.null, .null, .null, .null, .null, .int 0, .int 0, .int 0, .int 0]))]) [1] (by decide) rfl
  have hKc := hK.sub (tys' := []) [] rfl
  have hFc := va_free (wc := [(q_1, .inr (4, [.null, .null, .null, .null, .null, .int 0, .int 0, .int 0, .int 0]))]) hD hS hA [1] rfl
  refine va_callv (va_runI (As := []) (rest := [.ref q_1, .ref h0]) ⟨hx, hb, hml, hown, hw⟩ (c_Tr_init l dC dI q_1 H.size) (cb_I 0 hw k_94 k_32 k_209 k_93 rfl rfl rfl (by decide +kernel) ⟨Nat.le_of_ble_eq_true rfl, Nat.le_of_ble_eq_true rfl⟩) ⟨fun a U g mk q => by obtain ⟨q0, q1, qP, qK, qD⟩ := q; exact ⟨q0, q1, qP, va_K.moved (u := U) (U := U.calling g mk a) (Vm.Alike.refl U.vm) qK, qD⟩, fun U hU hW => ⟨rfl, by rw [hU], by rw [hU]; exact hPc, va_K.moved hW.alike hKc, hDc.weaken (fun _ _ _ _ => trivial)⟩⟩ rfl rfl hl.1 rfl (lv_room (Nat.le_of_ble_eq_true rfl)) d_Ck_init_14 ⟨Nat.le_of_ble_eq_true rfl, Nat.le_of_ble_eq_true rfl⟩) hS (fun q _ h => hFc q h) hFc (fun u t H1 locs ht hvm hw9 hB hz1 hk1 hS => ?_)
  obtain ⟨q_2, z_3, q_4, z_5, q_6, z_7, q_8, z_9, q_10, z_11, hP1, hK1, hD1⟩ := hB
  rw [ht] at hP1
  have hK1 := va_K.moved hvm.symm hK1
  obtain ⟨hP, hD⟩ := va_join (wr := [(h0, .inr (0, [.ref r0, .null]))]) (w1 := [(q_1, .inr (4, [.ref q_2, .ref q_4, .ref q_6, .ref q_8, .ref q_10, .int 0, .int 0, .int 0, .int 1])), (q_2, .inl (z_3, 802, .inl (fun _ => 0))), (q_4, .inl (z_5, 401, .inl (fun _ => 0))), (q_6, .inl (z_7, 401, .inl (fun _ => 0))), (q_8, .inl (z_9, 401, .inl (fun _ => 0))), (q_10, .inl (z_11, 402, .inl (fun _ => 0)))]) hP hD [1] [0] rfl rfl (by decide) (by decide) hk1 hFc hP1 hD1
  have hK := hK.app (hK1.sub (tys' := [(z_3, .byte), (z_5, .int), (z_7, .int), (z_9, .int), (z_11, .int)]) [0, 1, 2, 3, 4] rfl)
  generalize H1 = H at hP hS ⊢
  have hP : va_P (dC, dI) vwCl [(h0, .inr (0, [.ref r0, .null])), (q_1, .inr (4, [.ref q_2, .ref q_4, .ref q_6, .ref q_8, .ref q_10, .int 0, .int 0, .int 0, .int 1])), (q_2, .inl (z_3, 802, .inl (fun _ => 0))), (q_4, .inl (z_5, 401, .inl (fun _ => 0))), (q_6, .inl (z_7, 401, .inl (fun _ => 0))), (q_8, .inl (z_9, 401, .inl (fun _ => 0))), (q_10, .inl (z_11, 402, .inl (fun _ => 0)))] H := hP
  have hD : va_D A [(h0, .inr (0, [.ref r0, .null])), (q_1, .inr (4, [.ref q_2, .ref q_4, .ref q_6, .ref q_8, .ref q_10, .int 0, .int 0, .int 0, .int 1])), (q_2, .inl (z_3, 802, .inl (fun _ => 0))), (q_4, .inl (z_5, 401, .inl (fun _ => 0))), (q_6, .inl (z_7, 401, .inl (fun _ => 0))), (q_8, .inl (z_9, 401, .inl (fun _ => 0))), (q_10, .inl (z_11, 402, .inl (fun _ => 0)))] := hD
  have hK : va_K (dC, dI) vwCl [(z_3, .byte), (z_5, .int), (z_7, .int), (z_9, .int), (z_11, .int)] s := hK
  refine W.widen (k := 6) (n := 2416) (by decide) (by decide) ?_
  refine va_putF (D := (dC, dI)) (ci := 0) (v := .ref q_1) (ty := .object "ClauseSearch$Trail") (C := R_Ck) (T := F_Ck) (N := 2) hx hb hw in_Ck t_Ck t_Ck_ok n_Ck hown hK hP hD hS 0 rfl rfl 1 (by decide) (hw (Cond.fieldLink "ClauseSearch$Check" 18 "ClauseSearch$Check" "trail" "LClauseSearch$Trail;") k_211) (fun _ h9 => h9) rfl hin rfl (by decide +kernel) rfl rfl (Nat.le_of_ble_eq_true rfl) d_Ck_init_17 (fun H locs hP hD hS => ?_)
  have hP : va_P (dC, dI) vwCl [(h0, .inr (0, [.ref r0, .ref q_1])), (q_1, .inr (4, [.ref q_2, .ref q_4, .ref q_6, .ref q_8, .ref q_10, .int 0, .int 0, .int 0, .int 1])), (q_2, .inl (z_3, 802, .inl (fun _ => 0))), (q_4, .inl (z_5, 401, .inl (fun _ => 0))), (q_6, .inl (z_7, 401, .inl (fun _ => 0))), (q_8, .inl (z_9, 401, .inl (fun _ => 0))), (q_10, .inl (z_11, 402, .inl (fun _ => 0)))] H := hP
  have hD : va_D A [(h0, .inr (0, [.ref r0, .ref q_1])), (q_1, .inr (4, [.ref q_2, .ref q_4, .ref q_6, .ref q_8, .ref q_10, .int 0, .int 0, .int 0, .int 1])), (q_2, .inl (z_3, 802, .inl (fun _ => 0))), (q_4, .inl (z_5, 401, .inl (fun _ => 0))), (q_6, .inl (z_7, 401, .inl (fun _ => 0))), (q_8, .inl (z_9, 401, .inl (fun _ => 0))), (q_10, .inl (z_11, 402, .inl (fun _ => 0)))] := hD
  refine W.widen (k := 6) (n := 2416) (by decide) (by decide) ?_
  exact W.vret hx hb hr (fun t ht hW => ⟨⟨(), rfl, trivial, q_1, q_2, z_3, q_4, z_5, q_6, z_7, q_8, z_9, q_10, z_11, by rw [ht]; exact hP, va_K.moved hW.alike hK, hD⟩, hS.F ht⟩) hS.2.2 d_Ck_init_20
end
section
abbrev y_Sr_init : MethodName := ⟨"ClauseSearch$Search", "<init>", "(LClauseSearch$Rows;LClauseSearch$Trail;)V"⟩
theorem k_33 : (Cond.initialized "ClauseSearch$Watch") ∈ bg_W := bg_in 33 (by decide +kernel) (by decide +kernel)
theorem k_35 : (Cond.initialized "ClauseSearch$Lesson") ∈ bg_W := bg_in 35 (by decide +kernel) (by decide +kernel)
theorem k_36 : (Cond.initialized "ClauseSearch$Check") ∈ bg_W := bg_in 36 (by decide +kernel) (by decide +kernel)
theorem k_141 : (Cond.methodLink "ClauseSearch$Search" 3 ⟨"java/lang/Object", "<init>", "()V"⟩) ∈ bg_W := bg_in 141 (by decide +kernel) (by decide +kernel)
theorem k_142 : (Cond.classLink "ClauseSearch$Search" 19 "ClauseSearch$Watch") ∈ bg_W := bg_in 142 (by decide +kernel) (by decide +kernel)
theorem k_143 : (Cond.instantiable "ClauseSearch$Watch" 4) ∈ bg_W := bg_in 143 (by decide +kernel) (by decide +kernel)
theorem k_144 : (Cond.methodLink "ClauseSearch$Search" 21 ⟨"ClauseSearch$Watch", "<init>", "(LClauseSearch$Rows;LClauseSearch$Trail;)V"⟩) ∈ bg_W := bg_in 144 (by decide +kernel) (by decide +kernel)
theorem k_145 : (Cond.instanceMethod ⟨"ClauseSearch$Watch", "<init>", "(LClauseSearch$Rows;LClauseSearch$Trail;)V"⟩) ∈ bg_W := bg_in 145 (by decide +kernel) (by decide +kernel)
theorem k_146 : (Cond.code ⟨"ClauseSearch$Watch", "<init>", "(LClauseSearch$Rows;LClauseSearch$Trail;)V"⟩ prog_7_method_1_code 3 none) ∈ bg_W := bg_in 146 (by decide +kernel) (by decide +kernel)
theorem k_164 : (Cond.classLink "ClauseSearch$Search" 28 "ClauseSearch$Lesson") ∈ bg_W := bg_in 164 (by decide +kernel) (by decide +kernel)
theorem k_165 : (Cond.instantiable "ClauseSearch$Lesson" 8) ∈ bg_W := bg_in 165 (by decide +kernel) (by decide +kernel)
theorem k_166 : (Cond.methodLink "ClauseSearch$Search" 30 ⟨"ClauseSearch$Lesson", "<init>", "(LClauseSearch$Rows;LClauseSearch$Trail;)V"⟩) ∈ bg_W := bg_in 166 (by decide +kernel) (by decide +kernel)
theorem k_167 : (Cond.instanceMethod ⟨"ClauseSearch$Lesson", "<init>", "(LClauseSearch$Rows;LClauseSearch$Trail;)V"⟩) ∈ bg_W := bg_in 167 (by decide +kernel) (by decide +kernel)
theorem k_168 : (Cond.code ⟨"ClauseSearch$Lesson", "<init>", "(LClauseSearch$Rows;LClauseSearch$Trail;)V"⟩ prog_3_method_1_code 3 none) ∈ bg_W := bg_in 168 (by decide +kernel) (by decide +kernel)
theorem k_202 : (Cond.classLink "ClauseSearch$Search" 35 "ClauseSearch$Check") ∈ bg_W := bg_in 202 (by decide +kernel) (by decide +kernel)
theorem k_203 : (Cond.instantiable "ClauseSearch$Check" 2) ∈ bg_W := bg_in 203 (by decide +kernel) (by decide +kernel)
theorem k_204 : (Cond.methodLink "ClauseSearch$Search" 37 ⟨"ClauseSearch$Check", "<init>", "(LClauseSearch$Rows;)V"⟩) ∈ bg_W := bg_in 204 (by decide +kernel) (by decide +kernel)
theorem k_205 : (Cond.instanceMethod ⟨"ClauseSearch$Check", "<init>", "(LClauseSearch$Rows;)V"⟩) ∈ bg_W := bg_in 205 (by decide +kernel) (by decide +kernel)
theorem k_206 : (Cond.code ⟨"ClauseSearch$Check", "<init>", "(LClauseSearch$Rows;)V"⟩ prog_2_method_1_code 2 none) ∈ bg_W := bg_in 206 (by decide +kernel) (by decide +kernel)
theorem k_217 : (Cond.fieldLink "ClauseSearch$Search" 9 "ClauseSearch$Search" "rows" "LClauseSearch$Rows;") ∈ bg_W := bg_in 217 (by decide +kernel) (by decide +kernel)
theorem k_218 : (Cond.fieldLink "ClauseSearch$Search" 15 "ClauseSearch$Search" "trail" "LClauseSearch$Trail;") ∈ bg_W := bg_in 218 (by decide +kernel) (by decide +kernel)
theorem k_219 : (Cond.fieldLink "ClauseSearch$Search" 24 "ClauseSearch$Search" "watch" "LClauseSearch$Watch;") ∈ bg_W := bg_in 219 (by decide +kernel) (by decide +kernel)
theorem k_220 : (Cond.fieldLink "ClauseSearch$Search" 31 "ClauseSearch$Search" "lesson" "LClauseSearch$Lesson;") ∈ bg_W := bg_in 220 (by decide +kernel) (by decide +kernel)
theorem k_221 : (Cond.fieldLink "ClauseSearch$Search" 40 "ClauseSearch$Search" "check" "LClauseSearch$Check;") ∈ bg_W := bg_in 221 (by decide +kernel) (by decide +kernel)
theorem k_222 : (Cond.fieldLink "ClauseSearch$Search" 44 "ClauseSearch$Search" "plain" "[I") ∈ bg_W := bg_in 222 (by decide +kernel) (by decide +kernel)
theorem k_223 : (Cond.fieldLink "ClauseSearch$Search" 48 "ClauseSearch$Search" "facts" "[I") ∈ bg_W := bg_in 223 (by decide +kernel) (by decide +kernel)
theorem k_224 : (Cond.fieldLink "ClauseSearch$Search" 51 "ClauseSearch$Search" "isFact" "[Z") ∈ bg_W := bg_in 224 (by decide +kernel) (by decide +kernel)
theorem d_Sr_init_0 : decode prog_5_method_1_code 0 = .ok (.aload_n 0, 1) := by decide +kernel
theorem d_Sr_init_1 : decode prog_5_method_1_code 1 = .ok (.invokespecial 3, 3) := by decide +kernel
theorem d_Sr_init_4 : decode prog_5_method_1_code 4 = .ok (.aload_n 0, 1) := by decide +kernel
theorem d_Sr_init_5 : decode prog_5_method_1_code 5 = .ok (.aload_n 1, 1) := by decide +kernel
theorem d_Sr_init_6 : decode prog_5_method_1_code 6 = .ok (.putfield 9, 3) := by decide +kernel
theorem d_Sr_init_9 : decode prog_5_method_1_code 9 = .ok (.aload_n 0, 1) := by decide +kernel
theorem d_Sr_init_10 : decode prog_5_method_1_code 10 = .ok (.aload_n 2, 1) := by decide +kernel
theorem d_Sr_init_11 : decode prog_5_method_1_code 11 = .ok (.putfield 15, 3) := by decide +kernel
theorem d_Sr_init_14 : decode prog_5_method_1_code 14 = .ok (.aload_n 0, 1) := by decide +kernel
theorem d_Sr_init_15 : decode prog_5_method_1_code 15 = .ok (.new 19, 3) := by decide +kernel
theorem d_Sr_init_18 : decode prog_5_method_1_code 18 = .ok (.dup, 1) := by decide +kernel
theorem d_Sr_init_19 : decode prog_5_method_1_code 19 = .ok (.aload_n 1, 1) := by decide +kernel
theorem d_Sr_init_20 : decode prog_5_method_1_code 20 = .ok (.aload_n 2, 1) := by decide +kernel
theorem d_Sr_init_21 : decode prog_5_method_1_code 21 = .ok (.invokespecial 21, 3) := by decide +kernel
theorem d_Sr_init_24 : decode prog_5_method_1_code 24 = .ok (.putfield 24, 3) := by decide +kernel
theorem d_Sr_init_27 : decode prog_5_method_1_code 27 = .ok (.aload_n 0, 1) := by decide +kernel
theorem d_Sr_init_28 : decode prog_5_method_1_code 28 = .ok (.new 28, 3) := by decide +kernel
theorem d_Sr_init_31 : decode prog_5_method_1_code 31 = .ok (.dup, 1) := by decide +kernel
theorem d_Sr_init_32 : decode prog_5_method_1_code 32 = .ok (.aload_n 1, 1) := by decide +kernel
theorem d_Sr_init_33 : decode prog_5_method_1_code 33 = .ok (.aload_n 2, 1) := by decide +kernel
theorem d_Sr_init_34 : decode prog_5_method_1_code 34 = .ok (.invokespecial 30, 3) := by decide +kernel
theorem d_Sr_init_37 : decode prog_5_method_1_code 37 = .ok (.putfield 31, 3) := by decide +kernel
theorem d_Sr_init_40 : decode prog_5_method_1_code 40 = .ok (.aload_n 0, 1) := by decide +kernel
theorem d_Sr_init_41 : decode prog_5_method_1_code 41 = .ok (.new 35, 3) := by decide +kernel
theorem d_Sr_init_44 : decode prog_5_method_1_code 44 = .ok (.dup, 1) := by decide +kernel
theorem d_Sr_init_45 : decode prog_5_method_1_code 45 = .ok (.aload_n 1, 1) := by decide +kernel
theorem d_Sr_init_46 : decode prog_5_method_1_code 46 = .ok (.invokespecial 37, 3) := by decide +kernel
theorem d_Sr_init_49 : decode prog_5_method_1_code 49 = .ok (.putfield 40, 3) := by decide +kernel
theorem d_Sr_init_52 : decode prog_5_method_1_code 52 = .ok (.aload_n 0, 1) := by decide +kernel
theorem d_Sr_init_53 : decode prog_5_method_1_code 53 = .ok (.bipush 20, 2) := by decide +kernel
theorem d_Sr_init_55 : decode prog_5_method_1_code 55 = .ok (.newarray .int, 2) := by decide +kernel
theorem d_Sr_init_57 : decode prog_5_method_1_code 57 = .ok (.putfield 44, 3) := by decide +kernel
theorem d_Sr_init_60 : decode prog_5_method_1_code 60 = .ok (.aload_n 0, 1) := by decide +kernel
theorem d_Sr_init_61 : decode prog_5_method_1_code 61 = .ok (.sipush 802, 3) := by decide +kernel
theorem d_Sr_init_64 : decode prog_5_method_1_code 64 = .ok (.newarray .int, 2) := by decide +kernel
theorem d_Sr_init_66 : decode prog_5_method_1_code 66 = .ok (.putfield 48, 3) := by decide +kernel
theorem d_Sr_init_69 : decode prog_5_method_1_code 69 = .ok (.aload_n 0, 1) := by decide +kernel
theorem d_Sr_init_70 : decode prog_5_method_1_code 70 = .ok (.sipush 802, 3) := by decide +kernel
theorem d_Sr_init_73 : decode prog_5_method_1_code 73 = .ok (.newarray .boolean, 2) := by decide +kernel
theorem d_Sr_init_75 : decode prog_5_method_1_code 75 = .ok (.putfield 51, 3) := by decide +kernel
theorem d_Sr_init_78 : decode prog_5_method_1_code 78 = .ok (.return_, 1) := by decide +kernel
set_option maxHeartbeats 4000000 in
set_option maxRecDepth 100000 in
/-- Search(rows, trail) -/
theorem c_Sr_init (l : Launch) (dC : Nat → ClassId) (dI : Nat → Nat → Nat) (h0 : Nat) (r0 : Nat) (r1 : Nat) (sz : Nat) : Met l y_Sr_init (wq y_Sr_init prog_5_method_1_code 3 none) ({ frames := 3, cells := 17, slots := 6187, locals := 53 }) (va_Pc [.ref h0, .ref r0, .ref r1] (fun U => U.heap.size = sz ∧ va_P (dC, dI) vwCl [(h0, .inr (3, [.null, .null, .null, .null, .null, .null, .null, .null, .int 0, .int 0, .int 0, .int 0]))] U.heap ∧ va_K (dC, dI) vwCl [] U ∧ va_D (fun _ => True) [(h0, .inr (3, [.null, .null, .null, .null, .null, .null, .null, .null, .int 0, .int 0, .int 0, .int 0]))])) (va_Qv (fun _ : Unit => True) (fun (_ : Unit) t => ∃ (q_1 : Nat) (q_2 : Nat) (z_3 : ClassId) (q_4 : Nat) (z_5 : ClassId) (g_6 : Nat → Int32) (q_8 : Nat) (q_9 : Nat) (z_10 : ClassId) (q_11 : Nat) (z_12 : ClassId) (q_13 : Nat) (z_14 : ClassId) (q_15 : Nat) (q_16 : Nat) (q_17 : Nat) (z_18 : ClassId) (q_19 : Nat) (z_20 : ClassId) (q_21 : Nat) (z_22 : ClassId) (q_23 : Nat) (z_24 : ClassId) (q_25 : Nat) (z_26 : ClassId) (q_27 : Nat) (z_28 : ClassId) (q_29 : Nat) (z_30 : ClassId) (q_31 : Nat) (z_32 : ClassId), (∀ j, j < 802 → g_6 j = -1) ∧ va_P (dC, dI) vwCl [(h0, .inr (3, [.ref r0, .ref r1, .ref q_1, .ref q_8, .ref q_15, .ref q_27, .ref q_29, .ref q_31, .int 0, .int 0, .int 0, .int 0])), (q_1, .inr (5, [.ref r0, .ref r1, .ref q_4, .ref q_2])), (q_2, .inl (z_3, 128, .inl (fun _ => 0))), (q_4, .inl (z_5, 802, .inl g_6)), (q_8, .inr (1, [.ref r0, .ref r1, .ref q_9, .ref q_11, .ref q_13, .int 0, .int 0, .int 0])), (q_9, .inl (z_10, 401, .inl (fun _ => 0))), (q_11, .inl (z_12, 401, .inl (fun _ => 0))), (q_13, .inl (z_14, 401, .inl (fun _ => 0))), (q_15, .inr (0, [.ref r0, .ref q_16])), (q_16, .inr (4, [.ref q_17, .ref q_19, .ref q_21, .ref q_23, .ref q_25, .int 0, .int 0, .int 0, .int 1])), (q_17, .inl (z_18, 802, .inl (fun _ => 0))), (q_19, .inl (z_20, 401, .inl (fun _ => 0))), (q_21, .inl (z_22, 401, .inl (fun _ => 0))), (q_23, .inl (z_24, 401, .inl (fun _ => 0))), (q_25, .inl (z_26, 402, .inl (fun _ => 0))), (q_27, .inl (z_28, 20, .inl (fun _ => 0))), (q_29, .inl (z_30, 802, .inl (fun _ => 0))), (q_31, .inl (z_32, 802, .inl (fun _ => 0)))] t.heap ∧ va_K (dC, dI) vwCl [(z_5, .int), (z_3, .int), (z_10, .boolean), (z_12, .int), (z_14, .int), (z_18, .byte), (z_20, .int), (z_22, .int), (z_24, .int), (z_26, .int), (z_28, .int), (z_30, .int), (z_32, .boolean)] t ∧ va_D (va_A [(h0, .inr (3, [.null, .null, .null, .null, .null, .null, .null, .null, .int 0, .int 0, .int 0, .int 0]))] sz) [(h0, .inr (3, [.ref r0, .ref r1, .ref q_1, .ref q_8, .ref q_15, .ref q_27, .ref q_29, .ref q_31, .int 0, .int 0, .int 0, .int 0])), (q_1, .inr (5, [.ref r0, .ref r1, .ref q_4, .ref q_2])), (q_2, .inl (z_3, 128, .inl (fun _ => 0))), (q_4, .inl (z_5, 802, .inl g_6)), (q_8, .inr (1, [.ref r0, .ref r1, .ref q_9, .ref q_11, .ref q_13, .int 0, .int 0, .int 0])), (q_9, .inl (z_10, 401, .inl (fun _ => 0))), (q_11, .inl (z_12, 401, .inl (fun _ => 0))), (q_13, .inl (z_14, 401, .inl (fun _ => 0))), (q_15, .inr (0, [.ref r0, .ref q_16])), (q_16, .inr (4, [.ref q_17, .ref q_19, .ref q_21, .ref q_23, .ref q_25, .int 0, .int 0, .int 0, .int 1])), (q_17, .inl (z_18, 802, .inl (fun _ => 0))), (q_19, .inl (z_20, 401, .inl (fun _ => 0))), (q_21, .inl (z_22, 401, .inl (fun _ => 0))), (q_23, .inl (z_24, 401, .inl (fun _ => 0))), (q_25, .inl (z_26, 402, .inl (fun _ => 0))), (q_27, .inl (z_28, 20, .inl (fun _ => 0))), (q_29, .inl (z_30, 802, .inl (fun _ => 0))), (q_31, .inl (z_32, 802, .inl (fun _ => 0)))]) (va_A [(h0, .inr (3, [.null, .null, .null, .null, .null, .null, .null, .null, .int 0, .int 0, .int 0, .int 0]))] sz)) 17 6187 (va_A [(h0, .inr (3, [.null, .null, .null, .null, .null, .null, .null, .null, .int 0, .int 0, .int 0, .int 0]))] sz) := by
  refine Met.ofW (cc := prog_5_method_1_code) (maxL := 3) (ret := none) (by decide) rfl ?_
  intro p e s m args below meth c s₁ B hml hv
  obtain ⟨rfl, hsz, hP, hK, hD0⟩ := hv
  have hx := B.exec
  have hb := B.bytes
  have hr := B.returns
  have hw : ∀ w ∈ bg_W, w.before #[Value.ref h0, Value.ref r0, Value.ref r1] s = true := fun w h => atoms_spec (ws := (wq y_Sr_init prog_5_method_1_code 3 none)) B.pre w (List.mem_cons_of_mem _ h)
  have hown : s.vm.findClass R_Sr = some m.cls := findClass_of_methodNamed B.named
  have hlocks := B.notSynchronized
  have hin : meth.name = "<init>" := (name_of_methodNamed B.named B.method).1
  subst hsz
  have hD := hD0.self (sz := s.heap.size)
  generalize hAe : va_A [(h0, .inr (3, [.null, .null, .null, .null, .null, .null, .null, .null, .int 0, .int 0, .int 0, .int 0]))] s.heap.size = A at hD ⊢
  have hA : ∀ q : Nat, s.heap.size ≤ q → A q := fun q h => by rw [← hAe]; exact Or.inr h
  have hS : va_S A s.heap s.heap [] := va_S.rf
  have hP : va_P (dC, dI) vwCl [(h0, .inr (3, [.null, .null, .null, .null, .null, .null, .null, .null, .int 0, .int 0, .int 0, .int 0]))] s.heap := hP
  have hl := lv_entry ([.ref h0, .ref r0, .ref r1]) (n := 3) (Nat.le_of_ble_eq_true rfl)
  rw [lg_entry_eq]
  generalize (lg_sl ([.ref h0, .ref r0, .ref r1]) ++ List.replicate (3 - (lg_sl ([.ref h0, .ref r0, .ref r1])).length) Slot.unset).toArray = ls at hl ⊢
  have hl : lv_has ls 3 [(0, .ref h0), (1, .ref r0), (2, .ref r1)] := hl
  obtain ⟨H, hH⟩ : ∃ H : Heap, H = s.heap := ⟨_, rfl⟩
  rw [← hH] at hP
  have hS : va_S A s.heap H [] := by rw [hH]; exact va_S.rf
  show W p l e _ s m _ below meth c s.heap [] 0 0 _ _
  rw [← hH]
  refine lv_aload_n hx hb d_Sr_init_0 rfl (lv_at hl 0 rfl) ?_
  refine W.objInit hx hb hown (hw (Cond.methodLink "ClauseSearch$Search" 3 ⟨"java/lang/Object", "<init>", "()V"⟩) k_141) (hw (Cond.instanceMethod ⟨"java/lang/Object", "<init>", "()V"⟩) k_52) (hw (Cond.code ⟨"java/lang/Object", "<init>", "()V"⟩ object_method_1_code 1 none) k_53) rfl (by rw [hml]; exact hl.1) rfl d_Sr_init_1 (Nat.le_of_ble_eq_true rfl) (Nat.le_of_ble_eq_true rfl) ?_
  refine W.eq (g2 := F0 m 4 ls []) rfl ?_
  refine lv_aload_n hx hb d_Sr_init_4 rfl (lv_at hl 0 rfl) ?_
  refine lv_aload_n hx hb d_Sr_init_5 rfl (lv_at hl 1 rfl) ?_
  refine va_putF (D := (dC, dI)) (ci := 3) (v := .ref r0) (ty := .object "ClauseSearch$Rows") (C := R_Sr) (T := F_Sr) (N := 12) hx hb hw in_Sr t_Sr t_Sr_ok n_Sr hown hK hP hD hS 0 rfl rfl 0 (by decide) (hw (Cond.fieldLink "ClauseSearch$Search" 9 "ClauseSearch$Search" "rows" "LClauseSearch$Rows;") k_217) (fun _ h9 => h9) rfl hin rfl (by decide +kernel) rfl rfl (Nat.le_of_ble_eq_true rfl) d_Sr_init_6 (fun H locs hP hD hS => ?_)
  have hP : va_P (dC, dI) vwCl [(h0, .inr (3, [.ref r0, .null, .null, .null, .null, .null, .null, .null, .int 0, .int 0, .int 0, .int 0]))] H := hP
  have hD : va_D A [(h0, .inr (3, [.ref r0, .null, .null, .null, .null, .null, .null, .null, .int 0, .int 0, .int 0, .int 0]))] := hD
  refine lv_aload_n hx hb d_Sr_init_9 rfl (lv_at hl 0 rfl) ?_
  refine lv_aload_n hx hb d_Sr_init_10 rfl (lv_at hl 2 rfl) ?_
  refine va_putF (D := (dC, dI)) (ci := 3) (v := .ref r1) (ty := .object "ClauseSearch$Trail") (C := R_Sr) (T := F_Sr) (N := 12) hx hb hw in_Sr t_Sr t_Sr_ok n_Sr hown hK hP hD hS 0 rfl rfl 1 (by decide) (hw (Cond.fieldLink "ClauseSearch$Search" 15 "ClauseSearch$Search" "trail" "LClauseSearch$Trail;") k_218) (fun _ h9 => h9) rfl hin rfl (by decide +kernel) rfl rfl (Nat.le_of_ble_eq_true rfl) d_Sr_init_11 (fun H locs hP hD hS => ?_)
  have hP : va_P (dC, dI) vwCl [(h0, .inr (3, [.ref r0, .ref r1, .null, .null, .null, .null, .null, .null, .int 0, .int 0, .int 0, .int 0]))] H := hP
  have hD : va_D A [(h0, .inr (3, [.ref r0, .ref r1, .null, .null, .null, .null, .null, .null, .int 0, .int 0, .int 0, .int 0]))] := hD
  refine lv_aload_n hx hb d_Sr_init_14 rfl (lv_at hl 0 rfl) ?_
  refine va_new (ci := 5) (fs := [.null, .null, .null, .null]) (C := R_Wt) (T := F_Wt) (N := 4) hx hb hw in_Wt t_Wt t_Wt_ok hown (hw (Cond.classLink "ClauseSearch$Search" 19 "ClauseSearch$Watch") k_142) (hw (Cond.instantiable "ClauseSearch$Watch" 4) k_143) (hw (Cond.initialized "ClauseSearch$Watch") k_33) hK hP hD hS hA rfl (fun j hj => by rcases (show j = 0 ∨ j = 1 ∨ j = 2 ∨ j = 3 by omega) with rfl | rfl | rfl | rfl <;> rfl) (Nat.le_of_ble_eq_true rfl) (Nat.le_of_ble_eq_true rfl) d_Sr_init_15 (fun q_1 H hP hD hS => ?_)
  have hP : va_P (dC, dI) vwCl [(h0, .inr (3, [.ref r0, .ref r1, .null, .null, .null, .null, .null, .null, .int 0, .int 0, .int 0, .int 0])), (q_1, .inr (5, [.null, .null, .null, .null]))] H := hP
  have hD : va_D A [(h0, .inr (3, [.ref r0, .ref r1, .null, .null, .null, .null, .null, .null, .int 0, .int 0, .int 0, .int 0])), (q_1, .inr (5, [.null, .null, .null, .null]))] := hD
  refine W.widen (k := 1) (n := 4) (by decide) (by decide) ?_
  refine lv_dup hx hb d_Sr_init_18 rfl ?_
  refine lv_aload_n hx hb d_Sr_init_19 rfl (lv_at hl 1 rfl) ?_
  refine lv_aload_n hx hb d_Sr_init_20 rfl (lv_at hl 2 rfl) ?_
  have hPc := hP.sub (ws' := [(q_1, .inr (5, [.null, .null, .null, .null]))]) [1] rfl
  have hDc := hD.sub (ws' := [(q_1, .inr (5, [.null, .null, .null, .null]))]) [1] (by decide) rfl
  have hKc := hK.sub (tys' := []) [] rfl
  have hFc := va_free (wc := [(q_1, .inr (5, [.null, .null, .null, .null]))]) hD hS hA [1] rfl
  refine va_callv (va_runI (As := [.ref r0, .ref r1]) (rest := [.ref q_1, .ref h0]) ⟨hx, hb, hml, hown, hw⟩ (c_Wt_init l dC dI q_1 r0 r1 H.size) (cb_I 2 hw k_146 k_33 k_144 k_145 rfl rfl rfl (by decide +kernel) ⟨Nat.le_of_ble_eq_true rfl, Nat.le_of_ble_eq_true rfl⟩) ⟨fun a U g mk q => by obtain ⟨q0, q1, qP, qK, qD⟩ := q; exact ⟨q0, q1, qP, va_K.moved (u := U) (U := U.calling g mk a) (Vm.Alike.refl U.vm) qK, qD⟩, fun U hU hW => ⟨rfl, by rw [hU], by rw [hU]; exact hPc, va_K.moved hW.alike hKc, hDc.weaken (fun _ _ _ _ => trivial)⟩⟩ rfl rfl hl.1 rfl (lv_room (Nat.le_of_ble_eq_true rfl)) d_Sr_init_21 ⟨Nat.le_of_ble_eq_true rfl, Nat.le_of_ble_eq_true rfl⟩) hS (fun q _ h => hFc q h) hFc (fun u t H1 locs ht hvm hw9 hB hz1 hk1 hS => ?_)
  obtain ⟨q_2, z_3, q_4, z_5, g_6, f_7, hP1, hK1, hD1⟩ := hB
  rw [ht] at hP1
  have hK1 := va_K.moved hvm.symm hK1
  obtain ⟨hP, hD⟩ := va_join (wr := [(h0, .inr (3, [.ref r0, .ref r1, .null, .null, .null, .null, .null, .null, .int 0, .int 0, .int 0, .int 0]))]) (w1 := [(q_1, .inr (5, [.ref r0, .ref r1, .ref q_4, .ref q_2])), (q_2, .inl (z_3, 128, .inl (fun _ => 0))), (q_4, .inl (z_5, 802, .inl g_6))]) hP hD [1] [0] rfl rfl (by decide) (by decide) hk1 hFc hP1 hD1
  have hK := hK.app (hK1.sub (tys' := [(z_5, .int), (z_3, .int)]) [0, 1] rfl)
  generalize H1 = H at hP hS ⊢
  have hP : va_P (dC, dI) vwCl [(h0, .inr (3, [.ref r0, .ref r1, .null, .null, .null, .null, .null, .null, .int 0, .int 0, .int 0, .int 0])), (q_1, .inr (5, [.ref r0, .ref r1, .ref q_4, .ref q_2])), (q_2, .inl (z_3, 128, .inl (fun _ => 0))), (q_4, .inl (z_5, 802, .inl g_6))] H := hP
  have hD : va_D A [(h0, .inr (3, [.ref r0, .ref r1, .null, .null, .null, .null, .null, .null, .int 0, .int 0, .int 0, .int 0])), (q_1, .inr (5, [.ref r0, .ref r1, .ref q_4, .ref q_2])), (q_2, .inl (z_3, 128, .inl (fun _ => 0))), (q_4, .inl (z_5, 802, .inl g_6))] := hD
  have hK : va_K (dC, dI) vwCl [(z_5, .int), (z_3, .int)] s := hK
  refine W.widen (k := 3) (n := 934) (by decide) (by decide) ?_
  refine va_putF (D := (dC, dI)) (ci := 3) (v := .ref q_1) (ty := .object "ClauseSearch$Watch") (C := R_Sr) (T := F_Sr) (N := 12) hx hb hw in_Sr t_Sr t_Sr_ok n_Sr hown hK hP hD hS 0 rfl rfl 2 (by decide) (hw (Cond.fieldLink "ClauseSearch$Search" 24 "ClauseSearch$Search" "watch" "LClauseSearch$Watch;") k_219) (fun _ h9 => h9) rfl hin rfl (by decide +kernel) rfl rfl (Nat.le_of_ble_eq_true rfl) d_Sr_init_24 (fun H locs hP hD hS => ?_)
  have hP : va_P (dC, dI) vwCl [(h0, .inr (3, [.ref r0, .ref r1, .ref q_1, .null, .null, .null, .null, .null, .int 0, .int 0, .int 0, .int 0])), (q_1, .inr (5, [.ref r0, .ref r1, .ref q_4, .ref q_2])), (q_2, .inl (z_3, 128, .inl (fun _ => 0))), (q_4, .inl (z_5, 802, .inl g_6))] H := hP
  have hD : va_D A [(h0, .inr (3, [.ref r0, .ref r1, .ref q_1, .null, .null, .null, .null, .null, .int 0, .int 0, .int 0, .int 0])), (q_1, .inr (5, [.ref r0, .ref r1, .ref q_4, .ref q_2])), (q_2, .inl (z_3, 128, .inl (fun _ => 0))), (q_4, .inl (z_5, 802, .inl g_6))] := hD
  refine lv_aload_n hx hb d_Sr_init_27 rfl (lv_at hl 0 rfl) ?_
  refine va_new (ci := 1) (fs := [.null, .null, .null, .null, .null, .int 0, .int 0, .int 0]) (C := R_Ls) (T := F_Ls) (N := 8) hx hb hw in_Ls t_Ls t_Ls_ok hown (hw (Cond.classLink "ClauseSearch$Search" 28 "ClauseSearch$Lesson") k_164) (hw (Cond.instantiable "ClauseSearch$Lesson" 8) k_165) (hw (Cond.initialized "ClauseSearch$Lesson") k_35) hK hP hD hS hA rfl (fun j hj => by rcases (show j = 0 ∨ j = 1 ∨ j = 2 ∨ j = 3 ∨ j = 4 ∨ j = 5 ∨ j = 6 ∨ j = 7 by omega) with rfl | rfl | rfl | rfl | rfl | rfl | rfl | rfl <;> rfl) (Nat.le_of_ble_eq_true rfl) (Nat.le_of_ble_eq_true rfl) d_Sr_init_28 (fun q_8 H hP hD hS => ?_)
  have hP : va_P (dC, dI) vwCl [(h0, .inr (3, [.ref r0, .ref r1, .ref q_1, .null, .null, .null, .null, .null, .int 0, .int 0, .int 0, .int 0])), (q_1, .inr (5, [.ref r0, .ref r1, .ref q_4, .ref q_2])), (q_2, .inl (z_3, 128, .inl (fun _ => 0))), (q_4, .inl (z_5, 802, .inl g_6)), (q_8, .inr (1, [.null, .null, .null, .null, .null, .int 0, .int 0, .int 0]))] H := hP
  have hD : va_D A [(h0, .inr (3, [.ref r0, .ref r1, .ref q_1, .null, .null, .null, .null, .null, .int 0, .int 0, .int 0, .int 0])), (q_1, .inr (5, [.ref r0, .ref r1, .ref q_4, .ref q_2])), (q_2, .inl (z_3, 128, .inl (fun _ => 0))), (q_4, .inl (z_5, 802, .inl g_6)), (q_8, .inr (1, [.null, .null, .null, .null, .null, .int 0, .int 0, .int 0]))] := hD
  refine W.widen (k := 4) (n := 942) (by decide) (by decide) ?_
  refine lv_dup hx hb d_Sr_init_31 rfl ?_
  refine lv_aload_n hx hb d_Sr_init_32 rfl (lv_at hl 1 rfl) ?_
  refine lv_aload_n hx hb d_Sr_init_33 rfl (lv_at hl 2 rfl) ?_
  have hPc := hP.sub (ws' := [(q_8, .inr (1, [.null, .null, .null, .null, .null, .int 0, .int 0, .int 0]))]) [4] rfl
  have hDc := hD.sub (ws' := [(q_8, .inr (1, [.null, .null, .null, .null, .null, .int 0, .int 0, .int 0]))]) [4] (by decide) rfl
  have hKc := hK.sub (tys' := []) [] rfl
  have hFc := va_free (wc := [(q_8, .inr (1, [.null, .null, .null, .null, .null, .int 0, .int 0, .int 0]))]) hD hS hA [4] rfl
  refine va_callv (va_runI (As := [.ref r0, .ref r1]) (rest := [.ref q_8, .ref h0]) ⟨hx, hb, hml, hown, hw⟩ (c_Ls_init l dC dI q_8 r0 r1 H.size) (cb_I 2 hw k_168 k_35 k_166 k_167 rfl rfl rfl (by decide +kernel) ⟨Nat.le_of_ble_eq_true rfl, Nat.le_of_ble_eq_true rfl⟩) ⟨fun a U g mk q => by obtain ⟨q0, q1, qP, qK, qD⟩ := q; exact ⟨q0, q1, qP, va_K.moved (u := U) (U := U.calling g mk a) (Vm.Alike.refl U.vm) qK, qD⟩, fun U hU hW => ⟨rfl, by rw [hU], by rw [hU]; exact hPc, va_K.moved hW.alike hKc, hDc.weaken (fun _ _ _ _ => trivial)⟩⟩ rfl rfl hl.1 rfl (lv_room (Nat.le_of_ble_eq_true rfl)) d_Sr_init_34 ⟨Nat.le_of_ble_eq_true rfl, Nat.le_of_ble_eq_true rfl⟩) hS (fun q _ h => hFc q h) hFc (fun u t H1 locs ht hvm hw9 hB hz1 hk1 hS => ?_)
  obtain ⟨q_9, z_10, q_11, z_12, q_13, z_14, hP1, hK1, hD1⟩ := hB
  rw [ht] at hP1
  have hK1 := va_K.moved hvm.symm hK1
  obtain ⟨hP, hD⟩ := va_join (wr := [(h0, .inr (3, [.ref r0, .ref r1, .ref q_1, .null, .null, .null, .null, .null, .int 0, .int 0, .int 0, .int 0])), (q_1, .inr (5, [.ref r0, .ref r1, .ref q_4, .ref q_2])), (q_2, .inl (z_3, 128, .inl (fun _ => 0))), (q_4, .inl (z_5, 802, .inl g_6))]) (w1 := [(q_8, .inr (1, [.ref r0, .ref r1, .ref q_9, .ref q_11, .ref q_13, .int 0, .int 0, .int 0])), (q_9, .inl (z_10, 401, .inl (fun _ => 0))), (q_11, .inl (z_12, 401, .inl (fun _ => 0))), (q_13, .inl (z_14, 401, .inl (fun _ => 0)))]) hP hD [4] [0, 1, 2, 3] rfl rfl (by decide) (by decide) hk1 hFc hP1 hD1
  have hK := hK.app (hK1.sub (tys' := [(z_10, .boolean), (z_12, .int), (z_14, .int)]) [0, 1, 2] rfl)
  generalize H1 = H at hP hS ⊢
  have hP : va_P (dC, dI) vwCl [(h0, .inr (3, [.ref r0, .ref r1, .ref q_1, .null, .null, .null, .null, .null, .int 0, .int 0, .int 0, .int 0])), (q_1, .inr (5, [.ref r0, .ref r1, .ref q_4, .ref q_2])), (q_2, .inl (z_3, 128, .inl (fun _ => 0))), (q_4, .inl (z_5, 802, .inl g_6)), (q_8, .inr (1, [.ref r0, .ref r1, .ref q_9, .ref q_11, .ref q_13, .int 0, .int 0, .int 0])), (q_9, .inl (z_10, 401, .inl (fun _ => 0))), (q_11, .inl (z_12, 401, .inl (fun _ => 0))), (q_13, .inl (z_14, 401, .inl (fun _ => 0)))] H := hP
  have hD : va_D A [(h0, .inr (3, [.ref r0, .ref r1, .ref q_1, .null, .null, .null, .null, .null, .int 0, .int 0, .int 0, .int 0])), (q_1, .inr (5, [.ref r0, .ref r1, .ref q_4, .ref q_2])), (q_2, .inl (z_3, 128, .inl (fun _ => 0))), (q_4, .inl (z_5, 802, .inl g_6)), (q_8, .inr (1, [.ref r0, .ref r1, .ref q_9, .ref q_11, .ref q_13, .int 0, .int 0, .int 0])), (q_9, .inl (z_10, 401, .inl (fun _ => 0))), (q_11, .inl (z_12, 401, .inl (fun _ => 0))), (q_13, .inl (z_14, 401, .inl (fun _ => 0)))] := hD
  have hK : va_K (dC, dI) vwCl [(z_5, .int), (z_3, .int), (z_10, .boolean), (z_12, .int), (z_14, .int)] s := hK
  refine W.widen (k := 7) (n := 2145) (by decide) (by decide) ?_
  refine va_putF (D := (dC, dI)) (ci := 3) (v := .ref q_8) (ty := .object "ClauseSearch$Lesson") (C := R_Sr) (T := F_Sr) (N := 12) hx hb hw in_Sr t_Sr t_Sr_ok n_Sr hown hK hP hD hS 0 rfl rfl 3 (by decide) (hw (Cond.fieldLink "ClauseSearch$Search" 31 "ClauseSearch$Search" "lesson" "LClauseSearch$Lesson;") k_220) (fun _ h9 => h9) rfl hin rfl (by decide +kernel) rfl rfl (Nat.le_of_ble_eq_true rfl) d_Sr_init_37 (fun H locs hP hD hS => ?_)
  have hP : va_P (dC, dI) vwCl [(h0, .inr (3, [.ref r0, .ref r1, .ref q_1, .ref q_8, .null, .null, .null, .null, .int 0, .int 0, .int 0, .int 0])), (q_1, .inr (5, [.ref r0, .ref r1, .ref q_4, .ref q_2])), (q_2, .inl (z_3, 128, .inl (fun _ => 0))), (q_4, .inl (z_5, 802, .inl g_6)), (q_8, .inr (1, [.ref r0, .ref r1, .ref q_9, .ref q_11, .ref q_13, .int 0, .int 0, .int 0])), (q_9, .inl (z_10, 401, .inl (fun _ => 0))), (q_11, .inl (z_12, 401, .inl (fun _ => 0))), (q_13, .inl (z_14, 401, .inl (fun _ => 0)))] H := hP
  have hD : va_D A [(h0, .inr (3, [.ref r0, .ref r1, .ref q_1, .ref q_8, .null, .null, .null, .null, .int 0, .int 0, .int 0, .int 0])), (q_1, .inr (5, [.ref r0, .ref r1, .ref q_4, .ref q_2])), (q_2, .inl (z_3, 128, .inl (fun _ => 0))), (q_4, .inl (z_5, 802, .inl g_6)), (q_8, .inr (1, [.ref r0, .ref r1, .ref q_9, .ref q_11, .ref q_13, .int 0, .int 0, .int 0])), (q_9, .inl (z_10, 401, .inl (fun _ => 0))), (q_11, .inl (z_12, 401, .inl (fun _ => 0))), (q_13, .inl (z_14, 401, .inl (fun _ => 0)))] := hD
  refine lv_aload_n hx hb d_Sr_init_40 rfl (lv_at hl 0 rfl) ?_
  refine va_new (ci := 0) (fs := [.null, .null]) (C := R_Ck) (T := F_Ck) (N := 2) hx hb hw in_Ck t_Ck t_Ck_ok hown (hw (Cond.classLink "ClauseSearch$Search" 35 "ClauseSearch$Check") k_202) (hw (Cond.instantiable "ClauseSearch$Check" 2) k_203) (hw (Cond.initialized "ClauseSearch$Check") k_36) hK hP hD hS hA rfl (fun j hj => by rcases (show j = 0 ∨ j = 1 by omega) with rfl | rfl <;> rfl) (Nat.le_of_ble_eq_true rfl) (Nat.le_of_ble_eq_true rfl) d_Sr_init_41 (fun q_15 H hP hD hS => ?_)
  have hP : va_P (dC, dI) vwCl [(h0, .inr (3, [.ref r0, .ref r1, .ref q_1, .ref q_8, .null, .null, .null, .null, .int 0, .int 0, .int 0, .int 0])), (q_1, .inr (5, [.ref r0, .ref r1, .ref q_4, .ref q_2])), (q_2, .inl (z_3, 128, .inl (fun _ => 0))), (q_4, .inl (z_5, 802, .inl g_6)), (q_8, .inr (1, [.ref r0, .ref r1, .ref q_9, .ref q_11, .ref q_13, .int 0, .int 0, .int 0])), (q_9, .inl (z_10, 401, .inl (fun _ => 0))), (q_11, .inl (z_12, 401, .inl (fun _ => 0))), (q_13, .inl (z_14, 401, .inl (fun _ => 0))), (q_15, .inr (0, [.null, .null]))] H := hP
  have hD : va_D A [(h0, .inr (3, [.ref r0, .ref r1, .ref q_1, .ref q_8, .null, .null, .null, .null, .int 0, .int 0, .int 0, .int 0])), (q_1, .inr (5, [.ref r0, .ref r1, .ref q_4, .ref q_2])), (q_2, .inl (z_3, 128, .inl (fun _ => 0))), (q_4, .inl (z_5, 802, .inl g_6)), (q_8, .inr (1, [.ref r0, .ref r1, .ref q_9, .ref q_11, .ref q_13, .int 0, .int 0, .int 0])), (q_9, .inl (z_10, 401, .inl (fun _ => 0))), (q_11, .inl (z_12, 401, .inl (fun _ => 0))), (q_13, .inl (z_14, 401, .inl (fun _ => 0))), (q_15, .inr (0, [.null, .null]))] := hD
  refine W.widen (k := 8) (n := 2147) (by decide) (by decide) ?_
  refine lv_dup hx hb d_Sr_init_44 rfl ?_
  refine lv_aload_n hx hb d_Sr_init_45 rfl (lv_at hl 1 rfl) ?_
  have hPc := hP.sub (ws' := [(q_15, .inr (0, [.null, .null]))]) [8] rfl
  have hDc := hD.sub (ws' := [(q_15, .inr (0, [.null, .null]))]) [8] (by decide) rfl
  have hKc := hK.sub (tys' := []) [] rfl
  have hFc := va_free (wc := [(q_15, .inr (0, [.null, .null]))]) hD hS hA [8] rfl
  refine va_callv (va_runI (As := [.ref r0]) (rest := [.ref q_15, .ref h0]) ⟨hx, hb, hml, hown, hw⟩ (c_Ck_init l dC dI q_15 r0 H.size) (cb_I 1 hw k_206 k_36 k_204 k_205 rfl rfl rfl (by decide +kernel) ⟨Nat.le_of_ble_eq_true rfl, Nat.le_of_ble_eq_true rfl⟩) ⟨fun a U g mk q => by obtain ⟨q0, q1, qP, qK, qD⟩ := q; exact ⟨q0, q1, qP, va_K.moved (u := U) (U := U.calling g mk a) (Vm.Alike.refl U.vm) qK, qD⟩, fun U hU hW => ⟨rfl, by rw [hU], by rw [hU]; exact hPc, va_K.moved hW.alike hKc, hDc.weaken (fun _ _ _ _ => trivial)⟩⟩ rfl rfl hl.1 rfl (lv_room (Nat.le_of_ble_eq_true rfl)) d_Sr_init_46 ⟨Nat.le_of_ble_eq_true rfl, Nat.le_of_ble_eq_true rfl⟩) hS (fun q _ h => hFc q h) hFc (fun u t H1 locs ht hvm hw9 hB hz1 hk1 hS => ?_)
  obtain ⟨q_16, q_17, z_18, q_19, z_20, q_21, z_22, q_23, z_24, q_25, z_26, hP1, hK1, hD1⟩ := hB
  rw [ht] at hP1
  have hK1 := va_K.moved hvm.symm hK1
  obtain ⟨hP, hD⟩ := va_join (wr := [(h0, .inr (3, [.ref r0, .ref r1, .ref q_1, .ref q_8, .null, .null, .null, .null, .int 0, .int 0, .int 0, .int 0])), (q_1, .inr (5, [.ref r0, .ref r1, .ref q_4, .ref q_2])), (q_2, .inl (z_3, 128, .inl (fun _ => 0))), (q_4, .inl (z_5, 802, .inl g_6)), (q_8, .inr (1, [.ref r0, .ref r1, .ref q_9, .ref q_11, .ref q_13, .int 0, .int 0, .int 0])), (q_9, .inl (z_10, 401, .inl (fun _ => 0))), (q_11, .inl (z_12, 401, .inl (fun _ => 0))), (q_13, .inl (z_14, 401, .inl (fun _ => 0)))]) (w1 := [(q_15, .inr (0, [.ref r0, .ref q_16])), (q_16, .inr (4, [.ref q_17, .ref q_19, .ref q_21, .ref q_23, .ref q_25, .int 0, .int 0, .int 0, .int 1])), (q_17, .inl (z_18, 802, .inl (fun _ => 0))), (q_19, .inl (z_20, 401, .inl (fun _ => 0))), (q_21, .inl (z_22, 401, .inl (fun _ => 0))), (q_23, .inl (z_24, 401, .inl (fun _ => 0))), (q_25, .inl (z_26, 402, .inl (fun _ => 0)))]) hP hD [8] [0, 1, 2, 3, 4, 5, 6, 7] rfl rfl (by decide) (by decide) hk1 hFc hP1 hD1
  have hK := hK.app (hK1.sub (tys' := [(z_18, .byte), (z_20, .int), (z_22, .int), (z_24, .int), (z_26, .int)]) [0, 1, 2, 3, 4] rfl)
  generalize H1 = H at hP hS ⊢
  have hP : va_P (dC, dI) vwCl [(h0, .inr (3, [.ref r0, .ref r1, .ref q_1, .ref q_8, .null, .null, .null, .null, .int 0, .int 0, .int 0, .int 0])), (q_1, .inr (5, [.ref r0, .ref r1, .ref q_4, .ref q_2])), (q_2, .inl (z_3, 128, .inl (fun _ => 0))), (q_4, .inl (z_5, 802, .inl g_6)), (q_8, .inr (1, [.ref r0, .ref r1, .ref q_9, .ref q_11, .ref q_13, .int 0, .int 0, .int 0])), (q_9, .inl (z_10, 401, .inl (fun _ => 0))), (q_11, .inl (z_12, 401, .inl (fun _ => 0))), (q_13, .inl (z_14, 401, .inl (fun _ => 0))), (q_15, .inr (0, [.ref r0, .ref q_16])), (q_16, .inr (4, [.ref q_17, .ref q_19, .ref q_21, .ref q_23, .ref q_25, .int 0, .int 0, .int 0, .int 1])), (q_17, .inl (z_18, 802, .inl (fun _ => 0))), (q_19, .inl (z_20, 401, .inl (fun _ => 0))), (q_21, .inl (z_22, 401, .inl (fun _ => 0))), (q_23, .inl (z_24, 401, .inl (fun _ => 0))), (q_25, .inl (z_26, 402, .inl (fun _ => 0)))] H := hP
  have hD : va_D A [(h0, .inr (3, [.ref r0, .ref r1, .ref q_1, .ref q_8, .null, .null, .null, .null, .int 0, .int 0, .int 0, .int 0])), (q_1, .inr (5, [.ref r0, .ref r1, .ref q_4, .ref q_2])), (q_2, .inl (z_3, 128, .inl (fun _ => 0))), (q_4, .inl (z_5, 802, .inl g_6)), (q_8, .inr (1, [.ref r0, .ref r1, .ref q_9, .ref q_11, .ref q_13, .int 0, .int 0, .int 0])), (q_9, .inl (z_10, 401, .inl (fun _ => 0))), (q_11, .inl (z_12, 401, .inl (fun _ => 0))), (q_13, .inl (z_14, 401, .inl (fun _ => 0))), (q_15, .inr (0, [.ref r0, .ref q_16])), (q_16, .inr (4, [.ref q_17, .ref q_19, .ref q_21, .ref q_23, .ref q_25, .int 0, .int 0, .int 0, .int 1])), (q_17, .inl (z_18, 802, .inl (fun _ => 0))), (q_19, .inl (z_20, 401, .inl (fun _ => 0))), (q_21, .inl (z_22, 401, .inl (fun _ => 0))), (q_23, .inl (z_24, 401, .inl (fun _ => 0))), (q_25, .inl (z_26, 402, .inl (fun _ => 0)))] := hD
  have hK : va_K (dC, dI) vwCl [(z_5, .int), (z_3, .int), (z_10, .boolean), (z_12, .int), (z_14, .int), (z_18, .byte), (z_20, .int), (z_22, .int), (z_24, .int), (z_26, .int)] s := hK
  refine W.widen (k := 14) (n := 4563) (by decide) (by decide) ?_
  refine va_putF (D := (dC, dI)) (ci := 3) (v := .ref q_15) (ty := .object "ClauseSearch$Check") (C := R_Sr) (T := F_Sr) (N := 12) hx hb hw in_Sr t_Sr t_Sr_ok n_Sr hown hK hP hD hS 0 rfl rfl 4 (by decide) (hw (Cond.fieldLink "ClauseSearch$Search" 40 "ClauseSearch$Search" "check" "LClauseSearch$Check;") k_221) (fun _ h9 => h9) rfl hin rfl (by decide +kernel) rfl rfl (Nat.le_of_ble_eq_true rfl) d_Sr_init_49 (fun H locs hP hD hS => ?_)
  have hP : va_P (dC, dI) vwCl [(h0, .inr (3, [.ref r0, .ref r1, .ref q_1, .ref q_8, .ref q_15, .null, .null, .null, .int 0, .int 0, .int 0, .int 0])), (q_1, .inr (5, [.ref r0, .ref r1, .ref q_4, .ref q_2])), (q_2, .inl (z_3, 128, .inl (fun _ => 0))), (q_4, .inl (z_5, 802, .inl g_6)), (q_8, .inr (1, [.ref r0, .ref r1, .ref q_9, .ref q_11, .ref q_13, .int 0, .int 0, .int 0])), (q_9, .inl (z_10, 401, .inl (fun _ => 0))), (q_11, .inl (z_12, 401, .inl (fun _ => 0))), (q_13, .inl (z_14, 401, .inl (fun _ => 0))), (q_15, .inr (0, [.ref r0, .ref q_16])), (q_16, .inr (4, [.ref q_17, .ref q_19, .ref q_21, .ref q_23, .ref q_25, .int 0, .int 0, .int 0, .int 1])), (q_17, .inl (z_18, 802, .inl (fun _ => 0))), (q_19, .inl (z_20, 401, .inl (fun _ => 0))), (q_21, .inl (z_22, 401, .inl (fun _ => 0))), (q_23, .inl (z_24, 401, .inl (fun _ => 0))), (q_25, .inl (z_26, 402, .inl (fun _ => 0)))] H := hP
  have hD : va_D A [(h0, .inr (3, [.ref r0, .ref r1, .ref q_1, .ref q_8, .ref q_15, .null, .null, .null, .int 0, .int 0, .int 0, .int 0])), (q_1, .inr (5, [.ref r0, .ref r1, .ref q_4, .ref q_2])), (q_2, .inl (z_3, 128, .inl (fun _ => 0))), (q_4, .inl (z_5, 802, .inl g_6)), (q_8, .inr (1, [.ref r0, .ref r1, .ref q_9, .ref q_11, .ref q_13, .int 0, .int 0, .int 0])), (q_9, .inl (z_10, 401, .inl (fun _ => 0))), (q_11, .inl (z_12, 401, .inl (fun _ => 0))), (q_13, .inl (z_14, 401, .inl (fun _ => 0))), (q_15, .inr (0, [.ref r0, .ref q_16])), (q_16, .inr (4, [.ref q_17, .ref q_19, .ref q_21, .ref q_23, .ref q_25, .int 0, .int 0, .int 0, .int 1])), (q_17, .inl (z_18, 802, .inl (fun _ => 0))), (q_19, .inl (z_20, 401, .inl (fun _ => 0))), (q_21, .inl (z_22, 401, .inl (fun _ => 0))), (q_23, .inl (z_24, 401, .inl (fun _ => 0))), (q_25, .inl (z_26, 402, .inl (fun _ => 0)))] := hD
  refine lv_aload_n hx hb d_Sr_init_52 rfl (lv_at hl 0 rfl) ?_
  refine lv_bipush (v := 20) hx hb d_Sr_init_53 (by decide) ?_
  refine va_newa (atype := .int) hx hb (hw (Cond.arrayClass .int) k_87) (ty := .int) rfl hK hP hD hS hA (n := 20) (N' := 20) (a0 := (20, .inl (fun _ => 0))) (fun _ => rfl) (by decide) (by decide) (by decide) (Nat.le_of_ble_eq_true rfl) (Nat.le_of_ble_eq_true rfl) d_Sr_init_55 (fun q_27 z_28 H hK hP hD hS => ?_)
  have hP : va_P (dC, dI) vwCl [(h0, .inr (3, [.ref r0, .ref r1, .ref q_1, .ref q_8, .ref q_15, .null, .null, .null, .int 0, .int 0, .int 0, .int 0])), (q_1, .inr (5, [.ref r0, .ref r1, .ref q_4, .ref q_2])), (q_2, .inl (z_3, 128, .inl (fun _ => 0))), (q_4, .inl (z_5, 802, .inl g_6)), (q_8, .inr (1, [.ref r0, .ref r1, .ref q_9, .ref q_11, .ref q_13, .int 0, .int 0, .int 0])), (q_9, .inl (z_10, 401, .inl (fun _ => 0))), (q_11, .inl (z_12, 401, .inl (fun _ => 0))), (q_13, .inl (z_14, 401, .inl (fun _ => 0))), (q_15, .inr (0, [.ref r0, .ref q_16])), (q_16, .inr (4, [.ref q_17, .ref q_19, .ref q_21, .ref q_23, .ref q_25, .int 0, .int 0, .int 0, .int 1])), (q_17, .inl (z_18, 802, .inl (fun _ => 0))), (q_19, .inl (z_20, 401, .inl (fun _ => 0))), (q_21, .inl (z_22, 401, .inl (fun _ => 0))), (q_23, .inl (z_24, 401, .inl (fun _ => 0))), (q_25, .inl (z_26, 402, .inl (fun _ => 0))), (q_27, .inl (z_28, 20, .inl (fun _ => 0)))] H := hP
  have hD : va_D A [(h0, .inr (3, [.ref r0, .ref r1, .ref q_1, .ref q_8, .ref q_15, .null, .null, .null, .int 0, .int 0, .int 0, .int 0])), (q_1, .inr (5, [.ref r0, .ref r1, .ref q_4, .ref q_2])), (q_2, .inl (z_3, 128, .inl (fun _ => 0))), (q_4, .inl (z_5, 802, .inl g_6)), (q_8, .inr (1, [.ref r0, .ref r1, .ref q_9, .ref q_11, .ref q_13, .int 0, .int 0, .int 0])), (q_9, .inl (z_10, 401, .inl (fun _ => 0))), (q_11, .inl (z_12, 401, .inl (fun _ => 0))), (q_13, .inl (z_14, 401, .inl (fun _ => 0))), (q_15, .inr (0, [.ref r0, .ref q_16])), (q_16, .inr (4, [.ref q_17, .ref q_19, .ref q_21, .ref q_23, .ref q_25, .int 0, .int 0, .int 0, .int 1])), (q_17, .inl (z_18, 802, .inl (fun _ => 0))), (q_19, .inl (z_20, 401, .inl (fun _ => 0))), (q_21, .inl (z_22, 401, .inl (fun _ => 0))), (q_23, .inl (z_24, 401, .inl (fun _ => 0))), (q_25, .inl (z_26, 402, .inl (fun _ => 0))), (q_27, .inl (z_28, 20, .inl (fun _ => 0)))] := hD
  have hK : va_K (dC, dI) vwCl [(z_5, .int), (z_3, .int), (z_10, .boolean), (z_12, .int), (z_14, .int), (z_18, .byte), (z_20, .int), (z_22, .int), (z_24, .int), (z_26, .int), (z_28, .int)] s := hK
  refine W.widen (k := 15) (n := 4583) (by decide) (by decide) ?_
  refine va_putF (D := (dC, dI)) (ci := 3) (v := .ref q_27) (ty := .array .int) (C := R_Sr) (T := F_Sr) (N := 12) hx hb hw in_Sr t_Sr t_Sr_ok n_Sr hown hK hP hD hS 0 rfl rfl 5 (by decide) (hw (Cond.fieldLink "ClauseSearch$Search" 44 "ClauseSearch$Search" "plain" "[I") k_222) (fun _ h9 => h9) rfl hin rfl (by decide +kernel) rfl rfl (Nat.le_of_ble_eq_true rfl) d_Sr_init_57 (fun H locs hP hD hS => ?_)
  have hP : va_P (dC, dI) vwCl [(h0, .inr (3, [.ref r0, .ref r1, .ref q_1, .ref q_8, .ref q_15, .ref q_27, .null, .null, .int 0, .int 0, .int 0, .int 0])), (q_1, .inr (5, [.ref r0, .ref r1, .ref q_4, .ref q_2])), (q_2, .inl (z_3, 128, .inl (fun _ => 0))), (q_4, .inl (z_5, 802, .inl g_6)), (q_8, .inr (1, [.ref r0, .ref r1, .ref q_9, .ref q_11, .ref q_13, .int 0, .int 0, .int 0])), (q_9, .inl (z_10, 401, .inl (fun _ => 0))), (q_11, .inl (z_12, 401, .inl (fun _ => 0))), (q_13, .inl (z_14, 401, .inl (fun _ => 0))), (q_15, .inr (0, [.ref r0, .ref q_16])), (q_16, .inr (4, [.ref q_17, .ref q_19, .ref q_21, .ref q_23, .ref q_25, .int 0, .int 0, .int 0, .int 1])), (q_17, .inl (z_18, 802, .inl (fun _ => 0))), (q_19, .inl (z_20, 401, .inl (fun _ => 0))), (q_21, .inl (z_22, 401, .inl (fun _ => 0))), (q_23, .inl (z_24, 401, .inl (fun _ => 0))), (q_25, .inl (z_26, 402, .inl (fun _ => 0))), (q_27, .inl (z_28, 20, .inl (fun _ => 0)))] H := hP
  have hD : va_D A [(h0, .inr (3, [.ref r0, .ref r1, .ref q_1, .ref q_8, .ref q_15, .ref q_27, .null, .null, .int 0, .int 0, .int 0, .int 0])), (q_1, .inr (5, [.ref r0, .ref r1, .ref q_4, .ref q_2])), (q_2, .inl (z_3, 128, .inl (fun _ => 0))), (q_4, .inl (z_5, 802, .inl g_6)), (q_8, .inr (1, [.ref r0, .ref r1, .ref q_9, .ref q_11, .ref q_13, .int 0, .int 0, .int 0])), (q_9, .inl (z_10, 401, .inl (fun _ => 0))), (q_11, .inl (z_12, 401, .inl (fun _ => 0))), (q_13, .inl (z_14, 401, .inl (fun _ => 0))), (q_15, .inr (0, [.ref r0, .ref q_16])), (q_16, .inr (4, [.ref q_17, .ref q_19, .ref q_21, .ref q_23, .ref q_25, .int 0, .int 0, .int 0, .int 1])), (q_17, .inl (z_18, 802, .inl (fun _ => 0))), (q_19, .inl (z_20, 401, .inl (fun _ => 0))), (q_21, .inl (z_22, 401, .inl (fun _ => 0))), (q_23, .inl (z_24, 401, .inl (fun _ => 0))), (q_25, .inl (z_26, 402, .inl (fun _ => 0))), (q_27, .inl (z_28, 20, .inl (fun _ => 0)))] := hD
  refine lv_aload_n hx hb d_Sr_init_60 rfl (lv_at hl 0 rfl) ?_
  refine lv_sipush (v := 802) hx hb d_Sr_init_61 (by decide) ?_
  refine va_newa (atype := .int) hx hb (hw (Cond.arrayClass .int) k_87) (ty := .int) rfl hK hP hD hS hA (n := 802) (N' := 802) (a0 := (802, .inl (fun _ => 0))) (fun _ => rfl) (by decide) (by decide) (by decide) (Nat.le_of_ble_eq_true rfl) (Nat.le_of_ble_eq_true rfl) d_Sr_init_64 (fun q_29 z_30 H hK hP hD hS => ?_)
  have hP : va_P (dC, dI) vwCl [(h0, .inr (3, [.ref r0, .ref r1, .ref q_1, .ref q_8, .ref q_15, .ref q_27, .null, .null, .int 0, .int 0, .int 0, .int 0])), (q_1, .inr (5, [.ref r0, .ref r1, .ref q_4, .ref q_2])), (q_2, .inl (z_3, 128, .inl (fun _ => 0))), (q_4, .inl (z_5, 802, .inl g_6)), (q_8, .inr (1, [.ref r0, .ref r1, .ref q_9, .ref q_11, .ref q_13, .int 0, .int 0, .int 0])), (q_9, .inl (z_10, 401, .inl (fun _ => 0))), (q_11, .inl (z_12, 401, .inl (fun _ => 0))), (q_13, .inl (z_14, 401, .inl (fun _ => 0))), (q_15, .inr (0, [.ref r0, .ref q_16])), (q_16, .inr (4, [.ref q_17, .ref q_19, .ref q_21, .ref q_23, .ref q_25, .int 0, .int 0, .int 0, .int 1])), (q_17, .inl (z_18, 802, .inl (fun _ => 0))), (q_19, .inl (z_20, 401, .inl (fun _ => 0))), (q_21, .inl (z_22, 401, .inl (fun _ => 0))), (q_23, .inl (z_24, 401, .inl (fun _ => 0))), (q_25, .inl (z_26, 402, .inl (fun _ => 0))), (q_27, .inl (z_28, 20, .inl (fun _ => 0))), (q_29, .inl (z_30, 802, .inl (fun _ => 0)))] H := hP
  have hD : va_D A [(h0, .inr (3, [.ref r0, .ref r1, .ref q_1, .ref q_8, .ref q_15, .ref q_27, .null, .null, .int 0, .int 0, .int 0, .int 0])), (q_1, .inr (5, [.ref r0, .ref r1, .ref q_4, .ref q_2])), (q_2, .inl (z_3, 128, .inl (fun _ => 0))), (q_4, .inl (z_5, 802, .inl g_6)), (q_8, .inr (1, [.ref r0, .ref r1, .ref q_9, .ref q_11, .ref q_13, .int 0, .int 0, .int 0])), (q_9, .inl (z_10, 401, .inl (fun _ => 0))), (q_11, .inl (z_12, 401, .inl (fun _ => 0))), (q_13, .inl (z_14, 401, .inl (fun _ => 0))), (q_15, .inr (0, [.ref r0, .ref q_16])), (q_16, .inr (4, [.ref q_17, .ref q_19, .ref q_21, .ref q_23, .ref q_25, .int 0, .int 0, .int 0, .int 1])), (q_17, .inl (z_18, 802, .inl (fun _ => 0))), (q_19, .inl (z_20, 401, .inl (fun _ => 0))), (q_21, .inl (z_22, 401, .inl (fun _ => 0))), (q_23, .inl (z_24, 401, .inl (fun _ => 0))), (q_25, .inl (z_26, 402, .inl (fun _ => 0))), (q_27, .inl (z_28, 20, .inl (fun _ => 0))), (q_29, .inl (z_30, 802, .inl (fun _ => 0)))] := hD
  have hK : va_K (dC, dI) vwCl [(z_5, .int), (z_3, .int), (z_10, .boolean), (z_12, .int), (z_14, .int), (z_18, .byte), (z_20, .int), (z_22, .int), (z_24, .int), (z_26, .int), (z_28, .int), (z_30, .int)] s := hK
  refine W.widen (k := 16) (n := 5385) (by decide) (by decide) ?_
  refine va_putF (D := (dC, dI)) (ci := 3) (v := .ref q_29) (ty := .array .int) (C := R_Sr) (T := F_Sr) (N := 12) hx hb hw in_Sr t_Sr t_Sr_ok n_Sr hown hK hP hD hS 0 rfl rfl 6 (by decide) (hw (Cond.fieldLink "ClauseSearch$Search" 48 "ClauseSearch$Search" "facts" "[I") k_223) (fun _ h9 => h9) rfl hin rfl (by decide +kernel) rfl rfl (Nat.le_of_ble_eq_true rfl) d_Sr_init_66 (fun H locs hP hD hS => ?_)
  have hP : va_P (dC, dI) vwCl [(h0, .inr (3, [.ref r0, .ref r1, .ref q_1, .ref q_8, .ref q_15, .ref q_27, .ref q_29, .null, .int 0, .int 0, .int 0, .int 0])), (q_1, .inr (5, [.ref r0, .ref r1, .ref q_4, .ref q_2])), (q_2, .inl (z_3, 128, .inl (fun _ => 0))), (q_4, .inl (z_5, 802, .inl g_6)), (q_8, .inr (1, [.ref r0, .ref r1, .ref q_9, .ref q_11, .ref q_13, .int 0, .int 0, .int 0])), (q_9, .inl (z_10, 401, .inl (fun _ => 0))), (q_11, .inl (z_12, 401, .inl (fun _ => 0))), (q_13, .inl (z_14, 401, .inl (fun _ => 0))), (q_15, .inr (0, [.ref r0, .ref q_16])), (q_16, .inr (4, [.ref q_17, .ref q_19, .ref q_21, .ref q_23, .ref q_25, .int 0, .int 0, .int 0, .int 1])), (q_17, .inl (z_18, 802, .inl (fun _ => 0))), (q_19, .inl (z_20, 401, .inl (fun _ => 0))), (q_21, .inl (z_22, 401, .inl (fun _ => 0))), (q_23, .inl (z_24, 401, .inl (fun _ => 0))), (q_25, .inl (z_26, 402, .inl (fun _ => 0))), (q_27, .inl (z_28, 20, .inl (fun _ => 0))), (q_29, .inl (z_30, 802, .inl (fun _ => 0)))] H := hP
  have hD : va_D A [(h0, .inr (3, [.ref r0, .ref r1, .ref q_1, .ref q_8, .ref q_15, .ref q_27, .ref q_29, .null, .int 0, .int 0, .int 0, .int 0])), (q_1, .inr (5, [.ref r0, .ref r1, .ref q_4, .ref q_2])), (q_2, .inl (z_3, 128, .inl (fun _ => 0))), (q_4, .inl (z_5, 802, .inl g_6)), (q_8, .inr (1, [.ref r0, .ref r1, .ref q_9, .ref q_11, .ref q_13, .int 0, .int 0, .int 0])), (q_9, .inl (z_10, 401, .inl (fun _ => 0))), (q_11, .inl (z_12, 401, .inl (fun _ => 0))), (q_13, .inl (z_14, 401, .inl (fun _ => 0))), (q_15, .inr (0, [.ref r0, .ref q_16])), (q_16, .inr (4, [.ref q_17, .ref q_19, .ref q_21, .ref q_23, .ref q_25, .int 0, .int 0, .int 0, .int 1])), (q_17, .inl (z_18, 802, .inl (fun _ => 0))), (q_19, .inl (z_20, 401, .inl (fun _ => 0))), (q_21, .inl (z_22, 401, .inl (fun _ => 0))), (q_23, .inl (z_24, 401, .inl (fun _ => 0))), (q_25, .inl (z_26, 402, .inl (fun _ => 0))), (q_27, .inl (z_28, 20, .inl (fun _ => 0))), (q_29, .inl (z_30, 802, .inl (fun _ => 0)))] := hD
  refine lv_aload_n hx hb d_Sr_init_69 rfl (lv_at hl 0 rfl) ?_
  refine lv_sipush (v := 802) hx hb d_Sr_init_70 (by decide) ?_
  refine va_newa (atype := .boolean) hx hb (hw (Cond.arrayClass .boolean) k_201) (ty := .boolean) rfl hK hP hD hS hA (n := 802) (N' := 802) (a0 := (802, .inl (fun _ => 0))) (fun _ => rfl) (by decide) (by decide) (by decide) (Nat.le_of_ble_eq_true rfl) (Nat.le_of_ble_eq_true rfl) d_Sr_init_73 (fun q_31 z_32 H hK hP hD hS => ?_)
  have hP : va_P (dC, dI) vwCl [(h0, .inr (3, [.ref r0, .ref r1, .ref q_1, .ref q_8, .ref q_15, .ref q_27, .ref q_29, .null, .int 0, .int 0, .int 0, .int 0])), (q_1, .inr (5, [.ref r0, .ref r1, .ref q_4, .ref q_2])), (q_2, .inl (z_3, 128, .inl (fun _ => 0))), (q_4, .inl (z_5, 802, .inl g_6)), (q_8, .inr (1, [.ref r0, .ref r1, .ref q_9, .ref q_11, .ref q_13, .int 0, .int 0, .int 0])), (q_9, .inl (z_10, 401, .inl (fun _ => 0))), (q_11, .inl (z_12, 401, .inl (fun _ => 0))), (q_13, .inl (z_14, 401, .inl (fun _ => 0))), (q_15, .inr (0, [.ref r0, .ref q_16])), (q_16, .inr (4, [.ref q_17, .ref q_19, .ref q_21, .ref q_23, .ref q_25, .int 0, .int 0, .int 0, .int 1])), (q_17, .inl (z_18, 802, .inl (fun _ => 0))), (q_19, .inl (z_20, 401, .inl (fun _ => 0))), (q_21, .inl (z_22, 401, .inl (fun _ => 0))), (q_23, .inl (z_24, 401, .inl (fun _ => 0))), (q_25, .inl (z_26, 402, .inl (fun _ => 0))), (q_27, .inl (z_28, 20, .inl (fun _ => 0))), (q_29, .inl (z_30, 802, .inl (fun _ => 0))), (q_31, .inl (z_32, 802, .inl (fun _ => 0)))] H := hP
  have hD : va_D A [(h0, .inr (3, [.ref r0, .ref r1, .ref q_1, .ref q_8, .ref q_15, .ref q_27, .ref q_29, .null, .int 0, .int 0, .int 0, .int 0])), (q_1, .inr (5, [.ref r0, .ref r1, .ref q_4, .ref q_2])), (q_2, .inl (z_3, 128, .inl (fun _ => 0))), (q_4, .inl (z_5, 802, .inl g_6)), (q_8, .inr (1, [.ref r0, .ref r1, .ref q_9, .ref q_11, .ref q_13, .int 0, .int 0, .int 0])), (q_9, .inl (z_10, 401, .inl (fun _ => 0))), (q_11, .inl (z_12, 401, .inl (fun _ => 0))), (q_13, .inl (z_14, 401, .inl (fun _ => 0))), (q_15, .inr (0, [.ref r0, .ref q_16])), (q_16, .inr (4, [.ref q_17, .ref q_19, .ref q_21, .ref q_23, .ref q_25, .int 0, .int 0, .int 0, .int 1])), (q_17, .inl (z_18, 802, .inl (fun _ => 0))), (q_19, .inl (z_20, 401, .inl (fun _ => 0))), (q_21, .inl (z_22, 401, .inl (fun _ => 0))), (q_23, .inl (z_24, 401, .inl (fun _ => 0))), (q_25, .inl (z_26, 402, .inl (fun _ => 0))), (q_27, .inl (z_28, 20, .inl (fun _ => 0))), (q_29, .inl (z_30, 802, .inl (fun _ => 0))), (q_31, .inl (z_32, 802, .inl (fun _ => 0)))] := hD
  have hK : va_K (dC, dI) vwCl [(z_5, .int), (z_3, .int), (z_10, .boolean), (z_12, .int), (z_14, .int), (z_18, .byte), (z_20, .int), (z_22, .int), (z_24, .int), (z_26, .int), (z_28, .int), (z_30, .int), (z_32, .boolean)] s := hK
  refine W.widen (k := 17) (n := 6187) (by decide) (by decide) ?_
  refine va_putF (D := (dC, dI)) (ci := 3) (v := .ref q_31) (ty := .array .boolean) (C := R_Sr) (T := F_Sr) (N := 12) hx hb hw in_Sr t_Sr t_Sr_ok n_Sr hown hK hP hD hS 0 rfl rfl 7 (by decide) (hw (Cond.fieldLink "ClauseSearch$Search" 51 "ClauseSearch$Search" "isFact" "[Z") k_224) (fun _ h9 => h9) rfl hin rfl (by decide +kernel) rfl rfl (Nat.le_of_ble_eq_true rfl) d_Sr_init_75 (fun H locs hP hD hS => ?_)
  have hP : va_P (dC, dI) vwCl [(h0, .inr (3, [.ref r0, .ref r1, .ref q_1, .ref q_8, .ref q_15, .ref q_27, .ref q_29, .ref q_31, .int 0, .int 0, .int 0, .int 0])), (q_1, .inr (5, [.ref r0, .ref r1, .ref q_4, .ref q_2])), (q_2, .inl (z_3, 128, .inl (fun _ => 0))), (q_4, .inl (z_5, 802, .inl g_6)), (q_8, .inr (1, [.ref r0, .ref r1, .ref q_9, .ref q_11, .ref q_13, .int 0, .int 0, .int 0])), (q_9, .inl (z_10, 401, .inl (fun _ => 0))), (q_11, .inl (z_12, 401, .inl (fun _ => 0))), (q_13, .inl (z_14, 401, .inl (fun _ => 0))), (q_15, .inr (0, [.ref r0, .ref q_16])), (q_16, .inr (4, [.ref q_17, .ref q_19, .ref q_21, .ref q_23, .ref q_25, .int 0, .int 0, .int 0, .int 1])), (q_17, .inl (z_18, 802, .inl (fun _ => 0))), (q_19, .inl (z_20, 401, .inl (fun _ => 0))), (q_21, .inl (z_22, 401, .inl (fun _ => 0))), (q_23, .inl (z_24, 401, .inl (fun _ => 0))), (q_25, .inl (z_26, 402, .inl (fun _ => 0))), (q_27, .inl (z_28, 20, .inl (fun _ => 0))), (q_29, .inl (z_30, 802, .inl (fun _ => 0))), (q_31, .inl (z_32, 802, .inl (fun _ => 0)))] H := hP
  have hD : va_D A [(h0, .inr (3, [.ref r0, .ref r1, .ref q_1, .ref q_8, .ref q_15, .ref q_27, .ref q_29, .ref q_31, .int 0, .int 0, .int 0, .int 0])), (q_1, .inr (5, [.ref r0, .ref r1, .ref q_4, .ref q_2])), (q_2, .inl (z_3, 128, .inl (fun _ => 0))), (q_4, .inl (z_5, 802, .inl g_6)), (q_8, .inr (1, [.ref r0, .ref r1, .ref q_9, .ref q_11, .ref q_13, .int 0, .int 0, .int 0])), (q_9, .inl (z_10, 401, .inl (fun _ => 0))), (q_11, .inl (z_12, 401, .inl (fun _ => 0))), (q_13, .inl (z_14, 401, .inl (fun _ => 0))), (q_15, .inr (0, [.ref r0, .ref q_16])), (q_16, .inr (4, [.ref q_17, .ref q_19, .ref q_21, .ref q_23, .ref q_25, .int 0, .int 0, .int 0, .int 1])), (q_17, .inl (z_18, 802, .inl (fun _ => 0))), (q_19, .inl (z_20, 401, .inl (fun _ => 0))), (q_21, .inl (z_22, 401, .inl (fun _ => 0))), (q_23, .inl (z_24, 401, .inl (fun _ => 0))), (q_25, .inl (z_26, 402, .inl (fun _ => 0))), (q_27, .inl (z_28, 20, .inl (fun _ => 0))), (q_29, .inl (z_30, 802, .inl (fun _ => 0))), (q_31, .inl (z_32, 802, .inl (fun _ => 0)))] := hD
  refine W.widen (k := 17) (n := 6187) (by decide) (by decide) ?_
  exact W.vret hx hb hr (fun t ht hW => ⟨⟨(), rfl, trivial, q_1, q_2, z_3, q_4, z_5, g_6, q_8, q_9, z_10, q_11, z_12, q_13, z_14, q_15, q_16, q_17, z_18, q_19, z_20, q_21, z_22, q_23, z_24, q_25, z_26, q_27, z_28, q_29, z_30, q_31, z_32, f_7, by rw [ht]; exact hP, va_K.moved hW.alike hK, hD⟩, hS.F ht⟩) hS.2.2 d_Sr_init_78
end
section
abbrev y_Cs_init : MethodName := ⟨"ClauseSearch", "<init>", "()V"⟩
theorem k_30 : (Cond.initialized "ClauseSearch$Rows") ∈ bg_W := bg_in 30 (by decide +kernel) (by decide +kernel)
theorem k_31 : (Cond.initialized "ClauseSearch$Search") ∈ bg_W := bg_in 31 (by decide +kernel) (by decide +kernel)
theorem k_51 : (Cond.methodLink "ClauseSearch" 3 ⟨"java/lang/Object", "<init>", "()V"⟩) ∈ bg_W := bg_in 51 (by decide +kernel) (by decide +kernel)
theorem k_54 : (Cond.classLink "ClauseSearch" 13 "ClauseSearch$Rows") ∈ bg_W := bg_in 54 (by decide +kernel) (by decide +kernel)
theorem k_55 : (Cond.instantiable "ClauseSearch$Rows" 4) ∈ bg_W := bg_in 55 (by decide +kernel) (by decide +kernel)
theorem k_56 : (Cond.methodLink "ClauseSearch" 15 ⟨"ClauseSearch$Rows", "<init>", "()V"⟩) ∈ bg_W := bg_in 56 (by decide +kernel) (by decide +kernel)
theorem k_57 : (Cond.instanceMethod ⟨"ClauseSearch$Rows", "<init>", "()V"⟩) ∈ bg_W := bg_in 57 (by decide +kernel) (by decide +kernel)
theorem k_58 : (Cond.code ⟨"ClauseSearch$Rows", "<init>", "()V"⟩ prog_4_method_1_code 1 none) ∈ bg_W := bg_in 58 (by decide +kernel) (by decide +kernel)
theorem k_88 : (Cond.classLink "ClauseSearch" 20 "ClauseSearch$Search") ∈ bg_W := bg_in 88 (by decide +kernel) (by decide +kernel)
theorem k_89 : (Cond.instantiable "ClauseSearch$Search" 12) ∈ bg_W := bg_in 89 (by decide +kernel) (by decide +kernel)
theorem k_90 : (Cond.classLink "ClauseSearch" 22 "ClauseSearch$Trail") ∈ bg_W := bg_in 90 (by decide +kernel) (by decide +kernel)
theorem k_92 : (Cond.methodLink "ClauseSearch" 24 ⟨"ClauseSearch$Trail", "<init>", "()V"⟩) ∈ bg_W := bg_in 92 (by decide +kernel) (by decide +kernel)
theorem k_138 : (Cond.methodLink "ClauseSearch" 25 ⟨"ClauseSearch$Search", "<init>", "(LClauseSearch$Rows;LClauseSearch$Trail;)V"⟩) ∈ bg_W := bg_in 138 (by decide +kernel) (by decide +kernel)
theorem k_139 : (Cond.instanceMethod ⟨"ClauseSearch$Search", "<init>", "(LClauseSearch$Rows;LClauseSearch$Trail;)V"⟩) ∈ bg_W := bg_in 139 (by decide +kernel) (by decide +kernel)
theorem k_140 : (Cond.code ⟨"ClauseSearch$Search", "<init>", "(LClauseSearch$Rows;LClauseSearch$Trail;)V"⟩ prog_5_method_1_code 3 none) ∈ bg_W := bg_in 140 (by decide +kernel) (by decide +kernel)
theorem k_255 : (Cond.fieldLink "ClauseSearch" 9 "ClauseSearch" "row" "[I") ∈ bg_W := bg_in 255 (by decide +kernel) (by decide +kernel)
theorem k_256 : (Cond.fieldLink "ClauseSearch" 16 "ClauseSearch" "clauses" "LClauseSearch$Rows;") ∈ bg_W := bg_in 256 (by decide +kernel) (by decide +kernel)
theorem k_257 : (Cond.fieldLink "ClauseSearch" 28 "ClauseSearch" "search" "LClauseSearch$Search;") ∈ bg_W := bg_in 257 (by decide +kernel) (by decide +kernel)
theorem k_258 : (Cond.fieldLink "ClauseSearch" 32 "ClauseSearch" "way" "[Z") ∈ bg_W := bg_in 258 (by decide +kernel) (by decide +kernel)
theorem d_Cs_init_0 : decode prog_1_method_1_code 0 = .ok (.aload_n 0, 1) := by decide +kernel
theorem d_Cs_init_1 : decode prog_1_method_1_code 1 = .ok (.invokespecial 3, 3) := by decide +kernel
theorem d_Cs_init_4 : decode prog_1_method_1_code 4 = .ok (.aload_n 0, 1) := by decide +kernel
theorem d_Cs_init_5 : decode prog_1_method_1_code 5 = .ok (.bipush 20, 2) := by decide +kernel
theorem d_Cs_init_7 : decode prog_1_method_1_code 7 = .ok (.newarray .int, 2) := by decide +kernel
theorem d_Cs_init_9 : decode prog_1_method_1_code 9 = .ok (.putfield 9, 3) := by decide +kernel
theorem d_Cs_init_12 : decode prog_1_method_1_code 12 = .ok (.aload_n 0, 1) := by decide +kernel
theorem d_Cs_init_13 : decode prog_1_method_1_code 13 = .ok (.new 13, 3) := by decide +kernel
theorem d_Cs_init_16 : decode prog_1_method_1_code 16 = .ok (.dup, 1) := by decide +kernel
theorem d_Cs_init_17 : decode prog_1_method_1_code 17 = .ok (.invokespecial 15, 3) := by decide +kernel
theorem d_Cs_init_20 : decode prog_1_method_1_code 20 = .ok (.putfield 16, 3) := by decide +kernel
theorem d_Cs_init_23 : decode prog_1_method_1_code 23 = .ok (.aload_n 0, 1) := by decide +kernel
theorem d_Cs_init_24 : decode prog_1_method_1_code 24 = .ok (.new 20, 3) := by decide +kernel
theorem d_Cs_init_27 : decode prog_1_method_1_code 27 = .ok (.dup, 1) := by decide +kernel
theorem d_Cs_init_28 : decode prog_1_method_1_code 28 = .ok (.new 13, 3) := by decide +kernel
theorem d_Cs_init_31 : decode prog_1_method_1_code 31 = .ok (.dup, 1) := by decide +kernel
theorem d_Cs_init_32 : decode prog_1_method_1_code 32 = .ok (.invokespecial 15, 3) := by decide +kernel
theorem d_Cs_init_35 : decode prog_1_method_1_code 35 = .ok (.new 22, 3) := by decide +kernel
theorem d_Cs_init_38 : decode prog_1_method_1_code 38 = .ok (.dup, 1) := by decide +kernel
theorem d_Cs_init_39 : decode prog_1_method_1_code 39 = .ok (.invokespecial 24, 3) := by decide +kernel
theorem d_Cs_init_42 : decode prog_1_method_1_code 42 = .ok (.invokespecial 25, 3) := by decide +kernel
theorem d_Cs_init_45 : decode prog_1_method_1_code 45 = .ok (.putfield 28, 3) := by decide +kernel
theorem d_Cs_init_48 : decode prog_1_method_1_code 48 = .ok (.aload_n 0, 1) := by decide +kernel
theorem d_Cs_init_49 : decode prog_1_method_1_code 49 = .ok (.sipush 401, 3) := by decide +kernel
theorem d_Cs_init_52 : decode prog_1_method_1_code 52 = .ok (.newarray .boolean, 2) := by decide +kernel
theorem d_Cs_init_54 : decode prog_1_method_1_code 54 = .ok (.putfield 32, 3) := by decide +kernel
theorem d_Cs_init_57 : decode prog_1_method_1_code 57 = .ok (.return_, 1) := by decide +kernel
set_option maxHeartbeats 4000000 in
set_option maxRecDepth 100000 in
/-- ClauseSearch() -/
theorem c_Cs_init (l : Launch) (dC : Nat → ClassId) (dI : Nat → Nat → Nat) (h0 : Nat) (sz : Nat) : Met l y_Cs_init (wq y_Cs_init prog_1_method_1_code 1 none) ({ frames := 4, cells := 34, slots := 9812, locals := 75 }) (va_Pc [.ref h0] (fun U => U.heap.size = sz ∧ va_P (dC, dI) vwCl [(h0, .inr (6, [.null, .null, .null, .null, .int 0, .int 0, .int 0, .int 0]))] U.heap ∧ va_K (dC, dI) vwCl [] U ∧ va_D (fun _ => True) [(h0, .inr (6, [.null, .null, .null, .null, .int 0, .int 0, .int 0, .int 0]))])) (va_Qv (fun _ : Unit => True) (fun (_ : Unit) t => ∃ (q_1 : Nat) (z_2 : ClassId) (q_3 : Nat) (q_4 : Nat) (z_5 : ClassId) (q_6 : Nat) (z_7 : ClassId) (q_8 : Nat) (z_9 : ClassId) (q_11 : Nat) (q_12 : Nat) (z_13 : ClassId) (q_14 : Nat) (z_15 : ClassId) (q_16 : Nat) (z_17 : ClassId) (q_18 : Nat) (q_19 : Nat) (z_20 : ClassId) (q_21 : Nat) (z_22 : ClassId) (q_23 : Nat) (z_24 : ClassId) (q_25 : Nat) (z_26 : ClassId) (q_27 : Nat) (z_28 : ClassId) (q_10 : Nat) (q_29 : Nat) (q_30 : Nat) (z_31 : ClassId) (q_32 : Nat) (z_33 : ClassId) (g_34 : Nat → Int32) (q_35 : Nat) (q_36 : Nat) (z_37 : ClassId) (q_38 : Nat) (z_39 : ClassId) (q_40 : Nat) (z_41 : ClassId) (q_42 : Nat) (q_43 : Nat) (q_44 : Nat) (z_45 : ClassId) (q_46 : Nat) (z_47 : ClassId) (q_48 : Nat) (z_49 : ClassId) (q_50 : Nat) (z_51 : ClassId) (q_52 : Nat) (z_53 : ClassId) (q_54 : Nat) (z_55 : ClassId) (q_56 : Nat) (z_57 : ClassId) (q_58 : Nat) (z_59 : ClassId) (q_61 : Nat) (z_62 : ClassId), (∀ j, j < 802 → g_34 j = -1) ∧ va_P (dC, dI) vwCl [(h0, .inr (6, [.ref q_1, .ref q_3, .ref q_10, .ref q_61, .int 0, .int 0, .int 0, .int 0])), (q_1, .inl (z_2, 20, .inl (fun _ => 0))), (q_3, .inr (2, [.ref q_4, .ref q_6, .ref q_8, .int 0])), (q_4, .inl (z_5, 64, .inl (fun _ => 0))), (q_6, .inl (z_7, 64, .inl (fun _ => 0))), (q_8, .inl (z_9, 256, .inl (fun _ => 0))), (q_11, .inr (2, [.ref q_12, .ref q_14, .ref q_16, .int 0])), (q_12, .inl (z_13, 64, .inl (fun _ => 0))), (q_14, .inl (z_15, 64, .inl (fun _ => 0))), (q_16, .inl (z_17, 256, .inl (fun _ => 0))), (q_18, .inr (4, [.ref q_19, .ref q_21, .ref q_23, .ref q_25, .ref q_27, .int 0, .int 0, .int 0, .int 1])), (q_19, .inl (z_20, 802, .inl (fun _ => 0))), (q_21, .inl (z_22, 401, .inl (fun _ => 0))), (q_23, .inl (z_24, 401, .inl (fun _ => 0))), (q_25, .inl (z_26, 401, .inl (fun _ => 0))), (q_27, .inl (z_28, 402, .inl (fun _ => 0))), (q_10, .inr (3, [.ref q_11, .ref q_18, .ref q_29, .ref q_35, .ref q_42, .ref q_54, .ref q_56, .ref q_58, .int 0, .int 0, .int 0, .int 0])), (q_29, .inr (5, [.ref q_11, .ref q_18, .ref q_32, .ref q_30])), (q_30, .inl (z_31, 128, .inl (fun _ => 0))), (q_32, .inl (z_33, 802, .inl g_34)), (q_35, .inr (1, [.ref q_11, .ref q_18, .ref q_36, .ref q_38, .ref q_40, .int 0, .int 0, .int 0])), (q_36, .inl (z_37, 401, .inl (fun _ => 0))), (q_38, .inl (z_39, 401, .inl (fun _ => 0))), (q_40, .inl (z_41, 401, .inl (fun _ => 0))), (q_42, .inr (0, [.ref q_11, .ref q_43])), (q_43, .inr (4, [.ref q_44, .ref q_46, .ref q_48, .ref q_50, .ref q_52, .int 0, .int 0, .int 0, .int 1])), (q_44, .inl (z_45, 802, .inl (fun _ => 0))), (q_46, .inl (z_47, 401, .inl (fun _ => 0))), (q_48, .inl (z_49, 401, .inl (fun _ => 0))), (q_50, .inl (z_51, 401, .inl (fun _ => 0))), (q_52, .inl (z_53, 402, .inl (fun _ => 0))), (q_54, .inl (z_55, 20, .inl (fun _ => 0))), (q_56, .inl (z_57, 802, .inl (fun _ => 0))), (q_58, .inl (z_59, 802, .inl (fun _ => 0))), (q_61, .inl (z_62, 401, .inl (fun _ => 0)))] t.heap ∧ va_K (dC, dI) vwCl [(z_2, .int), (z_5, .int), (z_7, .int), (z_9, .int), (z_13, .int), (z_15, .int), (z_17, .int), (z_20, .byte), (z_22, .int), (z_24, .int), (z_26, .int), (z_28, .int), (z_33, .int), (z_31, .int), (z_37, .boolean), (z_39, .int), (z_41, .int), (z_45, .byte), (z_47, .int), (z_49, .int), (z_51, .int), (z_53, .int), (z_55, .int), (z_57, .int), (z_59, .boolean), (z_62, .boolean)] t ∧ va_D (va_A [(h0, .inr (6, [.null, .null, .null, .null, .int 0, .int 0, .int 0, .int 0]))] sz) [(h0, .inr (6, [.ref q_1, .ref q_3, .ref q_10, .ref q_61, .int 0, .int 0, .int 0, .int 0])), (q_1, .inl (z_2, 20, .inl (fun _ => 0))), (q_3, .inr (2, [.ref q_4, .ref q_6, .ref q_8, .int 0])), (q_4, .inl (z_5, 64, .inl (fun _ => 0))), (q_6, .inl (z_7, 64, .inl (fun _ => 0))), (q_8, .inl (z_9, 256, .inl (fun _ => 0))), (q_11, .inr (2, [.ref q_12, .ref q_14, .ref q_16, .int 0])), (q_12, .inl (z_13, 64, .inl (fun _ => 0))), (q_14, .inl (z_15, 64, .inl (fun _ => 0))), (q_16, .inl (z_17, 256, .inl (fun _ => 0))), (q_18, .inr (4, [.ref q_19, .ref q_21, .ref q_23, .ref q_25, .ref q_27, .int 0, .int 0, .int 0, .int 1])), (q_19, .inl (z_20, 802, .inl (fun _ => 0))), (q_21, .inl (z_22, 401, .inl (fun _ => 0))), (q_23, .inl (z_24, 401, .inl (fun _ => 0))), (q_25, .inl (z_26, 401, .inl (fun _ => 0))), (q_27, .inl (z_28, 402, .inl (fun _ => 0))), (q_10, .inr (3, [.ref q_11, .ref q_18, .ref q_29, .ref q_35, .ref q_42, .ref q_54, .ref q_56, .ref q_58, .int 0, .int 0, .int 0, .int 0])), (q_29, .inr (5, [.ref q_11, .ref q_18, .ref q_32, .ref q_30])), (q_30, .inl (z_31, 128, .inl (fun _ => 0))), (q_32, .inl (z_33, 802, .inl g_34)), (q_35, .inr (1, [.ref q_11, .ref q_18, .ref q_36, .ref q_38, .ref q_40, .int 0, .int 0, .int 0])), (q_36, .inl (z_37, 401, .inl (fun _ => 0))), (q_38, .inl (z_39, 401, .inl (fun _ => 0))), (q_40, .inl (z_41, 401, .inl (fun _ => 0))), (q_42, .inr (0, [.ref q_11, .ref q_43])), (q_43, .inr (4, [.ref q_44, .ref q_46, .ref q_48, .ref q_50, .ref q_52, .int 0, .int 0, .int 0, .int 1])), (q_44, .inl (z_45, 802, .inl (fun _ => 0))), (q_46, .inl (z_47, 401, .inl (fun _ => 0))), (q_48, .inl (z_49, 401, .inl (fun _ => 0))), (q_50, .inl (z_51, 401, .inl (fun _ => 0))), (q_52, .inl (z_53, 402, .inl (fun _ => 0))), (q_54, .inl (z_55, 20, .inl (fun _ => 0))), (q_56, .inl (z_57, 802, .inl (fun _ => 0))), (q_58, .inl (z_59, 802, .inl (fun _ => 0))), (q_61, .inl (z_62, 401, .inl (fun _ => 0)))]) (va_A [(h0, .inr (6, [.null, .null, .null, .null, .int 0, .int 0, .int 0, .int 0]))] sz)) 34 9812 (va_A [(h0, .inr (6, [.null, .null, .null, .null, .int 0, .int 0, .int 0, .int 0]))] sz) := by
  refine Met.ofW (cc := prog_1_method_1_code) (maxL := 1) (ret := none) (by decide) rfl ?_
  intro p e s m args below meth c s₁ B hml hv
  obtain ⟨rfl, hsz, hP, hK, hD0⟩ := hv
  have hx := B.exec
  have hb := B.bytes
  have hr := B.returns
  have hw : ∀ w ∈ bg_W, w.before #[Value.ref h0] s = true := fun w h => atoms_spec (ws := (wq y_Cs_init prog_1_method_1_code 1 none)) B.pre w (List.mem_cons_of_mem _ h)
  have hown : s.vm.findClass R_Cs = some m.cls := findClass_of_methodNamed B.named
  have hlocks := B.notSynchronized
  have hin : meth.name = "<init>" := (name_of_methodNamed B.named B.method).1
  subst hsz
  have hD := hD0.self (sz := s.heap.size)
  generalize hAe : va_A [(h0, .inr (6, [.null, .null, .null, .null, .int 0, .int 0, .int 0, .int 0]))] s.heap.size = A at hD ⊢
  have hA : ∀ q : Nat, s.heap.size ≤ q → A q := fun q h => by rw [← hAe]; exact Or.inr h
  have hS : va_S A s.heap s.heap [] := va_S.rf
  have hP : va_P (dC, dI) vwCl [(h0, .inr (6, [.null, .null, .null, .null, .int 0, .int 0, .int 0, .int 0]))] s.heap := hP
  have hl := lv_entry ([.ref h0]) (n := 1) (Nat.le_of_ble_eq_true rfl)
  rw [lg_entry_eq]
  generalize (lg_sl ([.ref h0]) ++ List.replicate (1 - (lg_sl ([.ref h0])).length) Slot.unset).toArray = ls at hl ⊢
  have hl : lv_has ls 1 [(0, .ref h0)] := hl
  obtain ⟨H, hH⟩ : ∃ H : Heap, H = s.heap := ⟨_, rfl⟩
  rw [← hH] at hP
  have hS : va_S A s.heap H [] := by rw [hH]; exact va_S.rf
  show W p l e _ s m _ below meth c s.heap [] 0 0 _ _
  rw [← hH]
  refine lv_aload_n hx hb d_Cs_init_0 rfl (lv_at hl 0 rfl) ?_
  refine W.objInit hx hb hown (hw (Cond.methodLink "ClauseSearch" 3 ⟨"java/lang/Object", "<init>", "()V"⟩) k_51) (hw (Cond.instanceMethod ⟨"java/lang/Object", "<init>", "()V"⟩) k_52) (hw (Cond.code ⟨"java/lang/Object", "<init>", "()V"⟩ object_method_1_code 1 none) k_53) rfl (by rw [hml]; exact hl.1) rfl d_Cs_init_1 (Nat.le_of_ble_eq_true rfl) (Nat.le_of_ble_eq_true rfl) ?_
  refine W.eq (g2 := F0 m 4 ls []) rfl ?_
  refine lv_aload_n hx hb d_Cs_init_4 rfl (lv_at hl 0 rfl) ?_
  refine lv_bipush (v := 20) hx hb d_Cs_init_5 (by decide) ?_
  refine va_newa (atype := .int) hx hb (hw (Cond.arrayClass .int) k_87) (ty := .int) rfl hK hP hD hS hA (n := 20) (N' := 20) (a0 := (20, .inl (fun _ => 0))) (fun _ => rfl) (by decide) (by decide) (by decide) (Nat.le_of_ble_eq_true rfl) (Nat.le_of_ble_eq_true rfl) d_Cs_init_7 (fun q_1 z_2 H hK hP hD hS => ?_)
  have hP : va_P (dC, dI) vwCl [(h0, .inr (6, [.null, .null, .null, .null, .int 0, .int 0, .int 0, .int 0])), (q_1, .inl (z_2, 20, .inl (fun _ => 0)))] H := hP
  have hD : va_D A [(h0, .inr (6, [.null, .null, .null, .null, .int 0, .int 0, .int 0, .int 0])), (q_1, .inl (z_2, 20, .inl (fun _ => 0)))] := hD
  have hK : va_K (dC, dI) vwCl [(z_2, .int)] s := hK
  refine W.widen (k := 1) (n := 20) (by decide) (by decide) ?_
  refine va_putF (D := (dC, dI)) (ci := 6) (v := .ref q_1) (ty := .array .int) (C := R_Cs) (T := F_Cs) (N := 8) hx hb hw in_Cs t_Cs t_Cs_ok n_Cs hown hK hP hD hS 0 rfl rfl 0 (by decide) (hw (Cond.fieldLink "ClauseSearch" 9 "ClauseSearch" "row" "[I") k_255) (fun _ h9 => h9) rfl hin rfl (by decide +kernel) rfl rfl (Nat.le_of_ble_eq_true rfl) d_Cs_init_9 (fun H locs hP hD hS => ?_)
  have hP : va_P (dC, dI) vwCl [(h0, .inr (6, [.ref q_1, .null, .null, .null, .int 0, .int 0, .int 0, .int 0])), (q_1, .inl (z_2, 20, .inl (fun _ => 0)))] H := hP
  have hD : va_D A [(h0, .inr (6, [.ref q_1, .null, .null, .null, .int 0, .int 0, .int 0, .int 0])), (q_1, .inl (z_2, 20, .inl (fun _ => 0)))] := hD
  refine lv_aload_n hx hb d_Cs_init_12 rfl (lv_at hl 0 rfl) ?_
  refine va_new (ci := 2) (fs := [.null, .null, .null, .int 0]) (C := R_Rw) (T := F_Rw) (N := 4) hx hb hw in_Rw t_Rw t_Rw_ok hown (hw (Cond.classLink "ClauseSearch" 13 "ClauseSearch$Rows") k_54) (hw (Cond.instantiable "ClauseSearch$Rows" 4) k_55) (hw (Cond.initialized "ClauseSearch$Rows") k_30) hK hP hD hS hA rfl (fun j hj => by rcases (show j = 0 ∨ j = 1 ∨ j = 2 ∨ j = 3 by omega) with rfl | rfl | rfl | rfl <;> rfl) (Nat.le_of_ble_eq_true rfl) (Nat.le_of_ble_eq_true rfl) d_Cs_init_13 (fun q_3 H hP hD hS => ?_)
  have hP : va_P (dC, dI) vwCl [(h0, .inr (6, [.ref q_1, .null, .null, .null, .int 0, .int 0, .int 0, .int 0])), (q_1, .inl (z_2, 20, .inl (fun _ => 0))), (q_3, .inr (2, [.null, .null, .null, .int 0]))] H := hP
  have hD : va_D A [(h0, .inr (6, [.ref q_1, .null, .null, .null, .int 0, .int 0, .int 0, .int 0])), (q_1, .inl (z_2, 20, .inl (fun _ => 0))), (q_3, .inr (2, [.null, .null, .null, .int 0]))] := hD
  refine W.widen (k := 2) (n := 24) (by decide) (by decide) ?_
  refine lv_dup hx hb d_Cs_init_16 rfl ?_
  have hPc := hP.sub (ws' := [(q_3, .inr (2, [.null, .null, .null, .int 0]))]) [2] rfl
  have hDc := hD.sub (ws' := [(q_3, .inr (2, [.null, .null, .null, .int 0]))]) [2] (by decide) rfl
  have hKc := hK.sub (tys' := []) [] rfl
  have hFc := va_free (wc := [(q_3, .inr (2, [.null, .null, .null, .int 0]))]) hD hS hA [2] rfl
  refine va_callv (va_runI (As := []) (rest := [.ref q_3, .ref h0]) ⟨hx, hb, hml, hown, hw⟩ (c_Rw_init l dC dI q_3 H.size) (cb_I 0 hw k_58 k_30 k_56 k_57 rfl rfl rfl (by decide +kernel) ⟨Nat.le_of_ble_eq_true rfl, Nat.le_of_ble_eq_true rfl⟩) ⟨fun a U g mk q => by obtain ⟨q0, q1, qP, qK, qD⟩ := q; exact ⟨q0, q1, qP, va_K.moved (u := U) (U := U.calling g mk a) (Vm.Alike.refl U.vm) qK, qD⟩, fun U hU hW => ⟨rfl, by rw [hU], by rw [hU]; exact hPc, va_K.moved hW.alike hKc, hDc.weaken (fun _ _ _ _ => trivial)⟩⟩ rfl rfl hl.1 rfl (lv_room (Nat.le_of_ble_eq_true rfl)) d_Cs_init_17 ⟨Nat.le_of_ble_eq_true rfl, Nat.le_of_ble_eq_true rfl⟩) hS (fun q _ h => hFc q h) hFc (fun u t H1 locs ht hvm hw9 hB hz1 hk1 hS => ?_)
  obtain ⟨q_4, z_5, q_6, z_7, q_8, z_9, hP1, hK1, hD1⟩ := hB
  rw [ht] at hP1
  have hK1 := va_K.moved hvm.symm hK1
  obtain ⟨hP, hD⟩ := va_join (wr := [(h0, .inr (6, [.ref q_1, .null, .null, .null, .int 0, .int 0, .int 0, .int 0])), (q_1, .inl (z_2, 20, .inl (fun _ => 0)))]) (w1 := [(q_3, .inr (2, [.ref q_4, .ref q_6, .ref q_8, .int 0])), (q_4, .inl (z_5, 64, .inl (fun _ => 0))), (q_6, .inl (z_7, 64, .inl (fun _ => 0))), (q_8, .inl (z_9, 256, .inl (fun _ => 0)))]) hP hD [2] [0, 1] rfl rfl (by decide) (by decide) hk1 hFc hP1 hD1
  have hK := hK.app (hK1.sub (tys' := [(z_5, .int), (z_7, .int), (z_9, .int)]) [0, 1, 2] rfl)
  generalize H1 = H at hP hS ⊢
  have hP : va_P (dC, dI) vwCl [(h0, .inr (6, [.ref q_1, .null, .null, .null, .int 0, .int 0, .int 0, .int 0])), (q_1, .inl (z_2, 20, .inl (fun _ => 0))), (q_3, .inr (2, [.ref q_4, .ref q_6, .ref q_8, .int 0])), (q_4, .inl (z_5, 64, .inl (fun _ => 0))), (q_6, .inl (z_7, 64, .inl (fun _ => 0))), (q_8, .inl (z_9, 256, .inl (fun _ => 0)))] H := hP
  have hD : va_D A [(h0, .inr (6, [.ref q_1, .null, .null, .null, .int 0, .int 0, .int 0, .int 0])), (q_1, .inl (z_2, 20, .inl (fun _ => 0))), (q_3, .inr (2, [.ref q_4, .ref q_6, .ref q_8, .int 0])), (q_4, .inl (z_5, 64, .inl (fun _ => 0))), (q_6, .inl (z_7, 64, .inl (fun _ => 0))), (q_8, .inl (z_9, 256, .inl (fun _ => 0)))] := hD
  have hK : va_K (dC, dI) vwCl [(z_2, .int), (z_5, .int), (z_7, .int), (z_9, .int)] s := hK
  refine W.widen (k := 5) (n := 408) (by decide) (by decide) ?_
  refine va_putF (D := (dC, dI)) (ci := 6) (v := .ref q_3) (ty := .object "ClauseSearch$Rows") (C := R_Cs) (T := F_Cs) (N := 8) hx hb hw in_Cs t_Cs t_Cs_ok n_Cs hown hK hP hD hS 0 rfl rfl 1 (by decide) (hw (Cond.fieldLink "ClauseSearch" 16 "ClauseSearch" "clauses" "LClauseSearch$Rows;") k_256) (fun _ h9 => h9) rfl hin rfl (by decide +kernel) rfl rfl (Nat.le_of_ble_eq_true rfl) d_Cs_init_20 (fun H locs hP hD hS => ?_)
  have hP : va_P (dC, dI) vwCl [(h0, .inr (6, [.ref q_1, .ref q_3, .null, .null, .int 0, .int 0, .int 0, .int 0])), (q_1, .inl (z_2, 20, .inl (fun _ => 0))), (q_3, .inr (2, [.ref q_4, .ref q_6, .ref q_8, .int 0])), (q_4, .inl (z_5, 64, .inl (fun _ => 0))), (q_6, .inl (z_7, 64, .inl (fun _ => 0))), (q_8, .inl (z_9, 256, .inl (fun _ => 0)))] H := hP
  have hD : va_D A [(h0, .inr (6, [.ref q_1, .ref q_3, .null, .null, .int 0, .int 0, .int 0, .int 0])), (q_1, .inl (z_2, 20, .inl (fun _ => 0))), (q_3, .inr (2, [.ref q_4, .ref q_6, .ref q_8, .int 0])), (q_4, .inl (z_5, 64, .inl (fun _ => 0))), (q_6, .inl (z_7, 64, .inl (fun _ => 0))), (q_8, .inl (z_9, 256, .inl (fun _ => 0)))] := hD
  refine lv_aload_n hx hb d_Cs_init_23 rfl (lv_at hl 0 rfl) ?_
  refine va_new (ci := 3) (fs := [.null, .null, .null, .null, .null, .null, .null, .null, .int 0, .int 0, .int 0, .int 0]) (C := R_Sr) (T := F_Sr) (N := 12) hx hb hw in_Sr t_Sr t_Sr_ok hown (hw (Cond.classLink "ClauseSearch" 20 "ClauseSearch$Search") k_88) (hw (Cond.instantiable "ClauseSearch$Search" 12) k_89) (hw (Cond.initialized "ClauseSearch$Search") k_31) hK hP hD hS hA rfl (fun j hj => by rcases (show j = 0 ∨ j = 1 ∨ j = 2 ∨ j = 3 ∨ j = 4 ∨ j = 5 ∨ j = 6 ∨ j = 7 ∨ j = 8 ∨ j = 9 ∨ j = 10 ∨ j = 11 by omega) with rfl | rfl | rfl | rfl | rfl | rfl | rfl | rfl | rfl | rfl | rfl | rfl <;> rfl) (Nat.le_of_ble_eq_true rfl) (Nat.le_of_ble_eq_true rfl) d_Cs_init_24 (fun q_10 H hP hD hS => ?_)
  have hP : va_P (dC, dI) vwCl [(h0, .inr (6, [.ref q_1, .ref q_3, .null, .null, .int 0, .int 0, .int 0, .int 0])), (q_1, .inl (z_2, 20, .inl (fun _ => 0))), (q_3, .inr (2, [.ref q_4, .ref q_6, .ref q_8, .int 0])), (q_4, .inl (z_5, 64, .inl (fun _ => 0))), (q_6, .inl (z_7, 64, .inl (fun _ => 0))), (q_8, .inl (z_9, 256, .inl (fun _ => 0))), (q_10, .inr (3, [.null, .null, .null, .null, .null, .null, .null, .null, .int 0, .int 0, .int 0, .int 0]))] H := hP
  have hD : va_D A [(h0, .inr (6, [.ref q_1, .ref q_3, .null, .null, .int 0, .int 0, .int 0, .int 0])), (q_1, .inl (z_2, 20, .inl (fun _ => 0))), (q_3, .inr (2, [.ref q_4, .ref q_6, .ref q_8, .int 0])), (q_4, .inl (z_5, 64, .inl (fun _ => 0))), (q_6, .inl (z_7, 64, .inl (fun _ => 0))), (q_8, .inl (z_9, 256, .inl (fun _ => 0))), (q_10, .inr (3, [.null, .null, .null, .null, .null, .null, .null, .null, .int 0, .int 0, .int 0, .int 0]))] := hD
  refine W.widen (k := 6) (n := 420) (by decide) (by decide) ?_
  refine lv_dup hx hb d_Cs_init_27 rfl ?_
  refine va_new (ci := 2) (fs := [.null, .null, .null, .int 0]) (C := R_Rw) (T := F_Rw) (N := 4) hx hb hw in_Rw t_Rw t_Rw_ok hown (hw (Cond.classLink "ClauseSearch" 13 "ClauseSearch$Rows") k_54) (hw (Cond.instantiable "ClauseSearch$Rows" 4) k_55) (hw (Cond.initialized "ClauseSearch$Rows") k_30) hK hP hD hS hA rfl (fun j hj => by rcases (show j = 0 ∨ j = 1 ∨ j = 2 ∨ j = 3 by omega) with rfl | rfl | rfl | rfl <;> rfl) (Nat.le_of_ble_eq_true rfl) (Nat.le_of_ble_eq_true rfl) d_Cs_init_28 (fun q_11 H hP hD hS => ?_)
  have hP : va_P (dC, dI) vwCl [(h0, .inr (6, [.ref q_1, .ref q_3, .null, .null, .int 0, .int 0, .int 0, .int 0])), (q_1, .inl (z_2, 20, .inl (fun _ => 0))), (q_3, .inr (2, [.ref q_4, .ref q_6, .ref q_8, .int 0])), (q_4, .inl (z_5, 64, .inl (fun _ => 0))), (q_6, .inl (z_7, 64, .inl (fun _ => 0))), (q_8, .inl (z_9, 256, .inl (fun _ => 0))), (q_10, .inr (3, [.null, .null, .null, .null, .null, .null, .null, .null, .int 0, .int 0, .int 0, .int 0])), (q_11, .inr (2, [.null, .null, .null, .int 0]))] H := hP
  have hD : va_D A [(h0, .inr (6, [.ref q_1, .ref q_3, .null, .null, .int 0, .int 0, .int 0, .int 0])), (q_1, .inl (z_2, 20, .inl (fun _ => 0))), (q_3, .inr (2, [.ref q_4, .ref q_6, .ref q_8, .int 0])), (q_4, .inl (z_5, 64, .inl (fun _ => 0))), (q_6, .inl (z_7, 64, .inl (fun _ => 0))), (q_8, .inl (z_9, 256, .inl (fun _ => 0))), (q_10, .inr (3, [.null, .null, .null, .null, .null, .null, .null, .null, .int 0, .int 0, .int 0, .int 0])), (q_11, .inr (2, [.null, .null, .null, .int 0]))] := hD
  refine W.widen (k := 7) (n := 424) (by decide) (by decide) ?_
  refine lv_dup hx hb d_Cs_init_31 rfl ?_
  have hPc := hP.sub (ws' := [(q_11, .inr (2, [.null, .null, .null, .int 0]))]) [7] rfl
  have hDc := hD.sub (ws' := [(q_11, .inr (2, [.null, .null, .null, .int 0]))]) [7] (by decide) rfl
  have hKc := hK.sub (tys' := []) [] rfl
  have hFc := va_free (wc := [(q_11, .inr (2, [.null, .null, .null, .int 0]))]) hD hS hA [7] rfl
  refine va_callv (va_runI (As := []) (rest := [.ref q_11, .ref q_10, .ref q_10, .ref h0]) ⟨hx, hb, hml, hown, hw⟩ (c_Rw_init l dC dI q_11 H.size) (cb_I 0 hw k_58 k_30 k_56 k_57 rfl rfl rfl (by decide +kernel) ⟨Nat.le_of_ble_eq_true rfl, Nat.le_of_ble_eq_true rfl⟩) ⟨fun a U g mk q => by obtain ⟨q0, q1, qP, qK, qD⟩ := q; exact ⟨q0, q1, qP, va_K.moved (u := U) (U := U.calling g mk a) (Vm.Alike.refl U.vm) qK, qD⟩, fun U hU hW => ⟨rfl, by rw [hU], by rw [hU]; exact hPc, va_K.moved hW.alike hKc, hDc.weaken (fun _ _ _ _ => trivial)⟩⟩ rfl rfl hl.1 rfl (lv_room (Nat.le_of_ble_eq_true rfl)) d_Cs_init_32 ⟨Nat.le_of_ble_eq_true rfl, Nat.le_of_ble_eq_true rfl⟩) hS (fun q _ h => hFc q h) hFc (fun u t H1 locs ht hvm hw9 hB hz1 hk1 hS => ?_)
  obtain ⟨q_12, z_13, q_14, z_15, q_16, z_17, hP1, hK1, hD1⟩ := hB
  rw [ht] at hP1
  have hK1 := va_K.moved hvm.symm hK1
  obtain ⟨hP, hD⟩ := va_join (wr := [(h0, .inr (6, [.ref q_1, .ref q_3, .null, .null, .int 0, .int 0, .int 0, .int 0])), (q_1, .inl (z_2, 20, .inl (fun _ => 0))), (q_3, .inr (2, [.ref q_4, .ref q_6, .ref q_8, .int 0])), (q_4, .inl (z_5, 64, .inl (fun _ => 0))), (q_6, .inl (z_7, 64, .inl (fun _ => 0))), (q_8, .inl (z_9, 256, .inl (fun _ => 0))), (q_10, .inr (3, [.null, .null, .null, .null, .null, .null, .null, .null, .int 0, .int 0, .int 0, .int 0]))]) (w1 := [(q_11, .inr (2, [.ref q_12, .ref q_14, .ref q_16, .int 0])), (q_12, .inl (z_13, 64, .inl (fun _ => 0))), (q_14, .inl (z_15, 64, .inl (fun _ => 0))), (q_16, .inl (z_17, 256, .inl (fun _ => 0)))]) hP hD [7] [0, 1, 2, 3, 4, 5, 6] rfl rfl (by decide) (by decide) hk1 hFc hP1 hD1
  have hK := hK.app (hK1.sub (tys' := [(z_13, .int), (z_15, .int), (z_17, .int)]) [0, 1, 2] rfl)
  generalize H1 = H at hP hS ⊢
  have hP : va_P (dC, dI) vwCl [(h0, .inr (6, [.ref q_1, .ref q_3, .null, .null, .int 0, .int 0, .int 0, .int 0])), (q_1, .inl (z_2, 20, .inl (fun _ => 0))), (q_3, .inr (2, [.ref q_4, .ref q_6, .ref q_8, .int 0])), (q_4, .inl (z_5, 64, .inl (fun _ => 0))), (q_6, .inl (z_7, 64, .inl (fun _ => 0))), (q_8, .inl (z_9, 256, .inl (fun _ => 0))), (q_10, .inr (3, [.null, .null, .null, .null, .null, .null, .null, .null, .int 0, .int 0, .int 0, .int 0])), (q_11, .inr (2, [.ref q_12, .ref q_14, .ref q_16, .int 0])), (q_12, .inl (z_13, 64, .inl (fun _ => 0))), (q_14, .inl (z_15, 64, .inl (fun _ => 0))), (q_16, .inl (z_17, 256, .inl (fun _ => 0)))] H := hP
  have hD : va_D A [(h0, .inr (6, [.ref q_1, .ref q_3, .null, .null, .int 0, .int 0, .int 0, .int 0])), (q_1, .inl (z_2, 20, .inl (fun _ => 0))), (q_3, .inr (2, [.ref q_4, .ref q_6, .ref q_8, .int 0])), (q_4, .inl (z_5, 64, .inl (fun _ => 0))), (q_6, .inl (z_7, 64, .inl (fun _ => 0))), (q_8, .inl (z_9, 256, .inl (fun _ => 0))), (q_10, .inr (3, [.null, .null, .null, .null, .null, .null, .null, .null, .int 0, .int 0, .int 0, .int 0])), (q_11, .inr (2, [.ref q_12, .ref q_14, .ref q_16, .int 0])), (q_12, .inl (z_13, 64, .inl (fun _ => 0))), (q_14, .inl (z_15, 64, .inl (fun _ => 0))), (q_16, .inl (z_17, 256, .inl (fun _ => 0)))] := hD
  have hK : va_K (dC, dI) vwCl [(z_2, .int), (z_5, .int), (z_7, .int), (z_9, .int), (z_13, .int), (z_15, .int), (z_17, .int)] s := hK
  refine W.widen (k := 10) (n := 808) (by decide) (by decide) ?_
  refine va_new (ci := 4) (fs := [.null, .null, .null, .null, .null, .int 0, .int 0, .int 0, .int 0]) (C := R_Tr) (T := F_Tr) (N := 9) hx hb hw in_Tr t_Tr t_Tr_ok hown (hw (Cond.classLink "ClauseSearch" 22 "ClauseSearch$Trail") k_90) (hw (Cond.instantiable "ClauseSearch$Trail" 9) k_91) (hw (Cond.initialized "ClauseSearch$Trail") k_32) hK hP hD hS hA rfl (fun j hj => by rcases (show j = 0 ∨ j = 1 ∨ j = 2 ∨ j = 3 ∨ j = 4 ∨ j = 5 ∨ j = 6 ∨ j = 7 ∨ j = 8 by omega) with rfl | rfl | rfl | rfl | rfl | rfl | rfl | rfl | rfl <;> rfl) (Nat.le_of_ble_eq_true rfl) (Nat.le_of_ble_eq_true rfl) d_Cs_init_35 (fun q_18 H hP hD hS => ?_)
  have hP : va_P (dC, dI) vwCl [(h0, .inr (6, [.ref q_1, .ref q_3, .null, .null, .int 0, .int 0, .int 0, .int 0])), (q_1, .inl (z_2, 20, .inl (fun _ => 0))), (q_3, .inr (2, [.ref q_4, .ref q_6, .ref q_8, .int 0])), (q_4, .inl (z_5, 64, .inl (fun _ => 0))), (q_6, .inl (z_7, 64, .inl (fun _ => 0))), (q_8, .inl (z_9, 256, .inl (fun _ => 0))), (q_10, .inr (3, [.null, .null, .null, .null, .null, .null, .null, .null, .int 0, .int 0, .int 0, .int 0])), (q_11, .inr (2, [.ref q_12, .ref q_14, .ref q_16, .int 0])), (q_12, .inl (z_13, 64, .inl (fun _ => 0))), (q_14, .inl (z_15, 64, .inl (fun _ => 0))), (q_16, .inl (z_17, 256, .inl (fun _ => 0))), (q_18, .inr (4, [.null, .null, .null, .null, .null, .int 0, .int 0, .int 0, .int 0]))] H := hP
  have hD : va_D A [(h0, .inr (6, [.ref q_1, .ref q_3, .null, .null, .int 0, .int 0, .int 0, .int 0])), (q_1, .inl (z_2, 20, .inl (fun _ => 0))), (q_3, .inr (2, [.ref q_4, .ref q_6, .ref q_8, .int 0])), (q_4, .inl (z_5, 64, .inl (fun _ => 0))), (q_6, .inl (z_7, 64, .inl (fun _ => 0))), (q_8, .inl (z_9, 256, .inl (fun _ => 0))), (q_10, .inr (3, [.null, .null, .null, .null, .null, .null, .null, .null, .int 0, .int 0, .int 0, .int 0])), (q_11, .inr (2, [.ref q_12, .ref q_14, .ref q_16, .int 0])), (q_12, .inl (z_13, 64, .inl (fun _ => 0))), (q_14, .inl (z_15, 64, .inl (fun _ => 0))), (q_16, .inl (z_17, 256, .inl (fun _ => 0))), (q_18, .inr (4, [.null, .null, .null, .null, .null, .int 0, .int 0, .int 0, .int 0]))] := hD
  refine W.widen (k := 11) (n := 817) (by decide) (by decide) ?_
  refine lv_dup hx hb d_Cs_init_38 rfl ?_
  have hPc := hP.sub (ws' := [(q_18, .inr (4, [.null, .null, .null, .null, .null, .int 0, .int 0, .int 0, .int 0]))]) [11] rfl
  have hDc := hD.sub (ws' := [(q_18, .inr (4, [.null, .null, .null, .null, .null, .int 0, .int 0, .int 0, .int 0]))]) [11] (by decide) rfl
  have hKc := hK.sub (tys' := []) [] rfl
  have hFc := va_free (wc := [(q_18, .inr (4, [.null, .null, .null, .null, .null, .int 0, .int 0, .int 0, .int 0]))]) hD hS hA [11] rfl
  refine va_callv (va_runI (As := []) (rest := [.ref q_18, .ref q_11, .ref q_10, .ref q_10, .ref h0]) ⟨hx, hb, hml, hown, hw⟩ (c_Tr_init l dC dI q_18 H.size) (cb_I 0 hw k_94 k_32 k_92 k_93 rfl rfl rfl (by decide +kernel) ⟨Nat.le_of_ble_eq_true rfl, Nat.le_of_ble_eq_true rfl⟩) ⟨fun a U g mk q => by obtain ⟨q0, q1, qP, qK, qD⟩ := q; exact ⟨q0, q1, qP, va_K.moved (u := U) (U := U.calling g mk a) (Vm.Alike.refl U.vm) qK, qD⟩, fun U hU hW => ⟨rfl, by rw [hU], by rw [hU]; exact hPc, va_K.moved hW.alike hKc, hDc.weaken (fun _ _ _ _ => trivial)⟩⟩ rfl rfl hl.1 rfl (lv_room (Nat.le_of_ble_eq_true rfl)) d_Cs_init_39 ⟨Nat.le_of_ble_eq_true rfl, Nat.le_of_ble_eq_true rfl⟩) hS (fun q _ h => hFc q h) hFc (fun u t H1 locs ht hvm hw9 hB hz1 hk1 hS => ?_)
  obtain ⟨q_19, z_20, q_21, z_22, q_23, z_24, q_25, z_26, q_27, z_28, hP1, hK1, hD1⟩ := hB
  rw [ht] at hP1
  have hK1 := va_K.moved hvm.symm hK1
  obtain ⟨hP, hD⟩ := va_join (wr := [(h0, .inr (6, [.ref q_1, .ref q_3, .null, .null, .int 0, .int 0, .int 0, .int 0])), (q_1, .inl (z_2, 20, .inl (fun _ => 0))), (q_3, .inr (2, [.ref q_4, .ref q_6, .ref q_8, .int 0])), (q_4, .inl (z_5, 64, .inl (fun _ => 0))), (q_6, .inl (z_7, 64, .inl (fun _ => 0))), (q_8, .inl (z_9, 256, .inl (fun _ => 0))), (q_10, .inr (3, [.null, .null, .null, .null, .null, .null, .null, .null, .int 0, .int 0, .int 0, .int 0])), (q_11, .inr (2, [.ref q_12, .ref q_14, .ref q_16, .int 0])), (q_12, .inl (z_13, 64, .inl (fun _ => 0))), (q_14, .inl (z_15, 64, .inl (fun _ => 0))), (q_16, .inl (z_17, 256, .inl (fun _ => 0)))]) (w1 := [(q_18, .inr (4, [.ref q_19, .ref q_21, .ref q_23, .ref q_25, .ref q_27, .int 0, .int 0, .int 0, .int 1])), (q_19, .inl (z_20, 802, .inl (fun _ => 0))), (q_21, .inl (z_22, 401, .inl (fun _ => 0))), (q_23, .inl (z_24, 401, .inl (fun _ => 0))), (q_25, .inl (z_26, 401, .inl (fun _ => 0))), (q_27, .inl (z_28, 402, .inl (fun _ => 0)))]) hP hD [11] [0, 1, 2, 3, 4, 5, 6, 7, 8, 9, 10] rfl rfl (by decide) (by decide) hk1 hFc hP1 hD1
  have hK := hK.app (hK1.sub (tys' := [(z_20, .byte), (z_22, .int), (z_24, .int), (z_26, .int), (z_28, .int)]) [0, 1, 2, 3, 4] rfl)
  generalize H1 = H at hP hS ⊢
  have hP : va_P (dC, dI) vwCl [(h0, .inr (6, [.ref q_1, .ref q_3, .null, .null, .int 0, .int 0, .int 0, .int 0])), (q_1, .inl (z_2, 20, .inl (fun _ => 0))), (q_3, .inr (2, [.ref q_4, .ref q_6, .ref q_8, .int 0])), (q_4, .inl (z_5, 64, .inl (fun _ => 0))), (q_6, .inl (z_7, 64, .inl (fun _ => 0))), (q_8, .inl (z_9, 256, .inl (fun _ => 0))), (q_10, .inr (3, [.null, .null, .null, .null, .null, .null, .null, .null, .int 0, .int 0, .int 0, .int 0])), (q_11, .inr (2, [.ref q_12, .ref q_14, .ref q_16, .int 0])), (q_12, .inl (z_13, 64, .inl (fun _ => 0))), (q_14, .inl (z_15, 64, .inl (fun _ => 0))), (q_16, .inl (z_17, 256, .inl (fun _ => 0))), (q_18, .inr (4, [.ref q_19, .ref q_21, .ref q_23, .ref q_25, .ref q_27, .int 0, .int 0, .int 0, .int 1])), (q_19, .inl (z_20, 802, .inl (fun _ => 0))), (q_21, .inl (z_22, 401, .inl (fun _ => 0))), (q_23, .inl (z_24, 401, .inl (fun _ => 0))), (q_25, .inl (z_26, 401, .inl (fun _ => 0))), (q_27, .inl (z_28, 402, .inl (fun _ => 0)))] H := hP
  have hD : va_D A [(h0, .inr (6, [.ref q_1, .ref q_3, .null, .null, .int 0, .int 0, .int 0, .int 0])), (q_1, .inl (z_2, 20, .inl (fun _ => 0))), (q_3, .inr (2, [.ref q_4, .ref q_6, .ref q_8, .int 0])), (q_4, .inl (z_5, 64, .inl (fun _ => 0))), (q_6, .inl (z_7, 64, .inl (fun _ => 0))), (q_8, .inl (z_9, 256, .inl (fun _ => 0))), (q_10, .inr (3, [.null, .null, .null, .null, .null, .null, .null, .null, .int 0, .int 0, .int 0, .int 0])), (q_11, .inr (2, [.ref q_12, .ref q_14, .ref q_16, .int 0])), (q_12, .inl (z_13, 64, .inl (fun _ => 0))), (q_14, .inl (z_15, 64, .inl (fun _ => 0))), (q_16, .inl (z_17, 256, .inl (fun _ => 0))), (q_18, .inr (4, [.ref q_19, .ref q_21, .ref q_23, .ref q_25, .ref q_27, .int 0, .int 0, .int 0, .int 1])), (q_19, .inl (z_20, 802, .inl (fun _ => 0))), (q_21, .inl (z_22, 401, .inl (fun _ => 0))), (q_23, .inl (z_24, 401, .inl (fun _ => 0))), (q_25, .inl (z_26, 401, .inl (fun _ => 0))), (q_27, .inl (z_28, 402, .inl (fun _ => 0)))] := hD
  have hK : va_K (dC, dI) vwCl [(z_2, .int), (z_5, .int), (z_7, .int), (z_9, .int), (z_13, .int), (z_15, .int), (z_17, .int), (z_20, .byte), (z_22, .int), (z_24, .int), (z_26, .int), (z_28, .int)] s := hK
  refine W.widen (k := 16) (n := 3224) (by decide) (by decide) ?_
  have hPc := hP.sub (ws' := [(q_10, .inr (3, [.null, .null, .null, .null, .null, .null, .null, .null, .int 0, .int 0, .int 0, .int 0]))]) [6] rfl
  have hDc := hD.sub (ws' := [(q_10, .inr (3, [.null, .null, .null, .null, .null, .null, .null, .null, .int 0, .int 0, .int 0, .int 0]))]) [6] (by decide) rfl
  have hKc := hK.sub (tys' := []) [] rfl
  have hFc := va_free (wc := [(q_10, .inr (3, [.null, .null, .null, .null, .null, .null, .null, .null, .int 0, .int 0, .int 0, .int 0]))]) hD hS hA [6] rfl
  refine va_callv (va_runI (As := [.ref q_11, .ref q_18]) (rest := [.ref q_10, .ref h0]) ⟨hx, hb, hml, hown, hw⟩ (c_Sr_init l dC dI q_10 q_11 q_18 H.size) (cb_I 2 hw k_140 k_31 k_138 k_139 rfl rfl rfl (by decide +kernel) ⟨Nat.le_of_ble_eq_true rfl, Nat.le_of_ble_eq_true rfl⟩) ⟨fun a U g mk q => by obtain ⟨q0, q1, qP, qK, qD⟩ := q; exact ⟨q0, q1, qP, va_K.moved (u := U) (U := U.calling g mk a) (Vm.Alike.refl U.vm) qK, qD⟩, fun U hU hW => ⟨rfl, by rw [hU], by rw [hU]; exact hPc, va_K.moved hW.alike hKc, hDc.weaken (fun _ _ _ _ => trivial)⟩⟩ rfl rfl hl.1 rfl (lv_room (Nat.le_of_ble_eq_true rfl)) d_Cs_init_42 ⟨Nat.le_of_ble_eq_true rfl, Nat.le_of_ble_eq_true rfl⟩) hS (fun q _ h => hFc q h) hFc (fun u t H1 locs ht hvm hw9 hB hz1 hk1 hS => ?_)
  obtain ⟨q_29, q_30, z_31, q_32, z_33, g_34, q_35, q_36, z_37, q_38, z_39, q_40, z_41, q_42, q_43, q_44, z_45, q_46, z_47, q_48, z_49, q_50, z_51, q_52, z_53, q_54, z_55, q_56, z_57, q_58, z_59, f_60, hP1, hK1, hD1⟩ := hB
  rw [ht] at hP1
  have hK1 := va_K.moved hvm.symm hK1
  obtain ⟨hP, hD⟩ := va_join (wr := [(h0, .inr (6, [.ref q_1, .ref q_3, .null, .null, .int 0, .int 0, .int 0, .int 0])), (q_1, .inl (z_2, 20, .inl (fun _ => 0))), (q_3, .inr (2, [.ref q_4, .ref q_6, .ref q_8, .int 0])), (q_4, .inl (z_5, 64, .inl (fun _ => 0))), (q_6, .inl (z_7, 64, .inl (fun _ => 0))), (q_8, .inl (z_9, 256, .inl (fun _ => 0))), (q_11, .inr (2, [.ref q_12, .ref q_14, .ref q_16, .int 0])), (q_12, .inl (z_13, 64, .inl (fun _ => 0))), (q_14, .inl (z_15, 64, .inl (fun _ => 0))), (q_16, .inl (z_17, 256, .inl (fun _ => 0))), (q_18, .inr (4, [.ref q_19, .ref q_21, .ref q_23, .ref q_25, .ref q_27, .int 0, .int 0, .int 0, .int 1])), (q_19, .inl (z_20, 802, .inl (fun _ => 0))), (q_21, .inl (z_22, 401, .inl (fun _ => 0))), (q_23, .inl (z_24, 401, .inl (fun _ => 0))), (q_25, .inl (z_26, 401, .inl (fun _ => 0))), (q_27, .inl (z_28, 402, .inl (fun _ => 0)))]) (w1 := [(q_10, .inr (3, [.ref q_11, .ref q_18, .ref q_29, .ref q_35, .ref q_42, .ref q_54, .ref q_56, .ref q_58, .int 0, .int 0, .int 0, .int 0])), (q_29, .inr (5, [.ref q_11, .ref q_18, .ref q_32, .ref q_30])), (q_30, .inl (z_31, 128, .inl (fun _ => 0))), (q_32, .inl (z_33, 802, .inl g_34)), (q_35, .inr (1, [.ref q_11, .ref q_18, .ref q_36, .ref q_38, .ref q_40, .int 0, .int 0, .int 0])), (q_36, .inl (z_37, 401, .inl (fun _ => 0))), (q_38, .inl (z_39, 401, .inl (fun _ => 0))), (q_40, .inl (z_41, 401, .inl (fun _ => 0))), (q_42, .inr (0, [.ref q_11, .ref q_43])), (q_43, .inr (4, [.ref q_44, .ref q_46, .ref q_48, .ref q_50, .ref q_52, .int 0, .int 0, .int 0, .int 1])), (q_44, .inl (z_45, 802, .inl (fun _ => 0))), (q_46, .inl (z_47, 401, .inl (fun _ => 0))), (q_48, .inl (z_49, 401, .inl (fun _ => 0))), (q_50, .inl (z_51, 401, .inl (fun _ => 0))), (q_52, .inl (z_53, 402, .inl (fun _ => 0))), (q_54, .inl (z_55, 20, .inl (fun _ => 0))), (q_56, .inl (z_57, 802, .inl (fun _ => 0))), (q_58, .inl (z_59, 802, .inl (fun _ => 0)))]) hP hD [6] [0, 1, 2, 3, 4, 5, 7, 8, 9, 10, 11, 12, 13, 14, 15, 16] rfl rfl (by decide) (by decide) hk1 hFc hP1 hD1
  have hK := hK.app (hK1.sub (tys' := [(z_33, .int), (z_31, .int), (z_37, .boolean), (z_39, .int), (z_41, .int), (z_45, .byte), (z_47, .int), (z_49, .int), (z_51, .int), (z_53, .int), (z_55, .int), (z_57, .int), (z_59, .boolean)]) [0, 1, 2, 3, 4, 5, 6, 7, 8, 9, 10, 11, 12] rfl)
  generalize H1 = H at hP hS ⊢
  have hP : va_P (dC, dI) vwCl [(h0, .inr (6, [.ref q_1, .ref q_3, .null, .null, .int 0, .int 0, .int 0, .int 0])), (q_1, .inl (z_2, 20, .inl (fun _ => 0))), (q_3, .inr (2, [.ref q_4, .ref q_6, .ref q_8, .int 0])), (q_4, .inl (z_5, 64, .inl (fun _ => 0))), (q_6, .inl (z_7, 64, .inl (fun _ => 0))), (q_8, .inl (z_9, 256, .inl (fun _ => 0))), (q_11, .inr (2, [.ref q_12, .ref q_14, .ref q_16, .int 0])), (q_12, .inl (z_13, 64, .inl (fun _ => 0))), (q_14, .inl (z_15, 64, .inl (fun _ => 0))), (q_16, .inl (z_17, 256, .inl (fun _ => 0))), (q_18, .inr (4, [.ref q_19, .ref q_21, .ref q_23, .ref q_25, .ref q_27, .int 0, .int 0, .int 0, .int 1])), (q_19, .inl (z_20, 802, .inl (fun _ => 0))), (q_21, .inl (z_22, 401, .inl (fun _ => 0))), (q_23, .inl (z_24, 401, .inl (fun _ => 0))), (q_25, .inl (z_26, 401, .inl (fun _ => 0))), (q_27, .inl (z_28, 402, .inl (fun _ => 0))), (q_10, .inr (3, [.ref q_11, .ref q_18, .ref q_29, .ref q_35, .ref q_42, .ref q_54, .ref q_56, .ref q_58, .int 0, .int 0, .int 0, .int 0])), (q_29, .inr (5, [.ref q_11, .ref q_18, .ref q_32, .ref q_30])), (q_30, .inl (z_31, 128, .inl (fun _ => 0))), (q_32, .inl (z_33, 802, .inl g_34)), (q_35, .inr (1, [.ref q_11, .ref q_18, .ref q_36, .ref q_38, .ref q_40, .int 0, .int 0, .int 0])), (q_36, .inl (z_37, 401, .inl (fun _ => 0))), (q_38, .inl (z_39, 401, .inl (fun _ => 0))), (q_40, .inl (z_41, 401, .inl (fun _ => 0))), (q_42, .inr (0, [.ref q_11, .ref q_43])), (q_43, .inr (4, [.ref q_44, .ref q_46, .ref q_48, .ref q_50, .ref q_52, .int 0, .int 0, .int 0, .int 1])), (q_44, .inl (z_45, 802, .inl (fun _ => 0))), (q_46, .inl (z_47, 401, .inl (fun _ => 0))), (q_48, .inl (z_49, 401, .inl (fun _ => 0))), (q_50, .inl (z_51, 401, .inl (fun _ => 0))), (q_52, .inl (z_53, 402, .inl (fun _ => 0))), (q_54, .inl (z_55, 20, .inl (fun _ => 0))), (q_56, .inl (z_57, 802, .inl (fun _ => 0))), (q_58, .inl (z_59, 802, .inl (fun _ => 0)))] H := hP
  have hD : va_D A [(h0, .inr (6, [.ref q_1, .ref q_3, .null, .null, .int 0, .int 0, .int 0, .int 0])), (q_1, .inl (z_2, 20, .inl (fun _ => 0))), (q_3, .inr (2, [.ref q_4, .ref q_6, .ref q_8, .int 0])), (q_4, .inl (z_5, 64, .inl (fun _ => 0))), (q_6, .inl (z_7, 64, .inl (fun _ => 0))), (q_8, .inl (z_9, 256, .inl (fun _ => 0))), (q_11, .inr (2, [.ref q_12, .ref q_14, .ref q_16, .int 0])), (q_12, .inl (z_13, 64, .inl (fun _ => 0))), (q_14, .inl (z_15, 64, .inl (fun _ => 0))), (q_16, .inl (z_17, 256, .inl (fun _ => 0))), (q_18, .inr (4, [.ref q_19, .ref q_21, .ref q_23, .ref q_25, .ref q_27, .int 0, .int 0, .int 0, .int 1])), (q_19, .inl (z_20, 802, .inl (fun _ => 0))), (q_21, .inl (z_22, 401, .inl (fun _ => 0))), (q_23, .inl (z_24, 401, .inl (fun _ => 0))), (q_25, .inl (z_26, 401, .inl (fun _ => 0))), (q_27, .inl (z_28, 402, .inl (fun _ => 0))), (q_10, .inr (3, [.ref q_11, .ref q_18, .ref q_29, .ref q_35, .ref q_42, .ref q_54, .ref q_56, .ref q_58, .int 0, .int 0, .int 0, .int 0])), (q_29, .inr (5, [.ref q_11, .ref q_18, .ref q_32, .ref q_30])), (q_30, .inl (z_31, 128, .inl (fun _ => 0))), (q_32, .inl (z_33, 802, .inl g_34)), (q_35, .inr (1, [.ref q_11, .ref q_18, .ref q_36, .ref q_38, .ref q_40, .int 0, .int 0, .int 0])), (q_36, .inl (z_37, 401, .inl (fun _ => 0))), (q_38, .inl (z_39, 401, .inl (fun _ => 0))), (q_40, .inl (z_41, 401, .inl (fun _ => 0))), (q_42, .inr (0, [.ref q_11, .ref q_43])), (q_43, .inr (4, [.ref q_44, .ref q_46, .ref q_48, .ref q_50, .ref q_52, .int 0, .int 0, .int 0, .int 1])), (q_44, .inl (z_45, 802, .inl (fun _ => 0))), (q_46, .inl (z_47, 401, .inl (fun _ => 0))), (q_48, .inl (z_49, 401, .inl (fun _ => 0))), (q_50, .inl (z_51, 401, .inl (fun _ => 0))), (q_52, .inl (z_53, 402, .inl (fun _ => 0))), (q_54, .inl (z_55, 20, .inl (fun _ => 0))), (q_56, .inl (z_57, 802, .inl (fun _ => 0))), (q_58, .inl (z_59, 802, .inl (fun _ => 0)))] := hD
  have hK : va_K (dC, dI) vwCl [(z_2, .int), (z_5, .int), (z_7, .int), (z_9, .int), (z_13, .int), (z_15, .int), (z_17, .int), (z_20, .byte), (z_22, .int), (z_24, .int), (z_26, .int), (z_28, .int), (z_33, .int), (z_31, .int), (z_37, .boolean), (z_39, .int), (z_41, .int), (z_45, .byte), (z_47, .int), (z_49, .int), (z_51, .int), (z_53, .int), (z_55, .int), (z_57, .int), (z_59, .boolean)] s := hK
  refine W.widen (k := 33) (n := 9411) (by decide) (by decide) ?_
  refine va_putF (D := (dC, dI)) (ci := 6) (v := .ref q_10) (ty := .object "ClauseSearch$Search") (C := R_Cs) (T := F_Cs) (N := 8) hx hb hw in_Cs t_Cs t_Cs_ok n_Cs hown hK hP hD hS 0 rfl rfl 2 (by decide) (hw (Cond.fieldLink "ClauseSearch" 28 "ClauseSearch" "search" "LClauseSearch$Search;") k_257) (fun _ h9 => h9) rfl hin rfl (by decide +kernel) rfl rfl (Nat.le_of_ble_eq_true rfl) d_Cs_init_45 (fun H locs hP hD hS => ?_)
  have hP : va_P (dC, dI) vwCl [(h0, .inr (6, [.ref q_1, .ref q_3, .ref q_10, .null, .int 0, .int 0, .int 0, .int 0])), (q_1, .inl (z_2, 20, .inl (fun _ => 0))), (q_3, .inr (2, [.ref q_4, .ref q_6, .ref q_8, .int 0])), (q_4, .inl (z_5, 64, .inl (fun _ => 0))), (q_6, .inl (z_7, 64, .inl (fun _ => 0))), (q_8, .inl (z_9, 256, .inl (fun _ => 0))), (q_11, .inr (2, [.ref q_12, .ref q_14, .ref q_16, .int 0])), (q_12, .inl (z_13, 64, .inl (fun _ => 0))), (q_14, .inl (z_15, 64, .inl (fun _ => 0))), (q_16, .inl (z_17, 256, .inl (fun _ => 0))), (q_18, .inr (4, [.ref q_19, .ref q_21, .ref q_23, .ref q_25, .ref q_27, .int 0, .int 0, .int 0, .int 1])), (q_19, .inl (z_20, 802, .inl (fun _ => 0))), (q_21, .inl (z_22, 401, .inl (fun _ => 0))), (q_23, .inl (z_24, 401, .inl (fun _ => 0))), (q_25, .inl (z_26, 401, .inl (fun _ => 0))), (q_27, .inl (z_28, 402, .inl (fun _ => 0))), (q_10, .inr (3, [.ref q_11, .ref q_18, .ref q_29, .ref q_35, .ref q_42, .ref q_54, .ref q_56, .ref q_58, .int 0, .int 0, .int 0, .int 0])), (q_29, .inr (5, [.ref q_11, .ref q_18, .ref q_32, .ref q_30])), (q_30, .inl (z_31, 128, .inl (fun _ => 0))), (q_32, .inl (z_33, 802, .inl g_34)), (q_35, .inr (1, [.ref q_11, .ref q_18, .ref q_36, .ref q_38, .ref q_40, .int 0, .int 0, .int 0])), (q_36, .inl (z_37, 401, .inl (fun _ => 0))), (q_38, .inl (z_39, 401, .inl (fun _ => 0))), (q_40, .inl (z_41, 401, .inl (fun _ => 0))), (q_42, .inr (0, [.ref q_11, .ref q_43])), (q_43, .inr (4, [.ref q_44, .ref q_46, .ref q_48, .ref q_50, .ref q_52, .int 0, .int 0, .int 0, .int 1])), (q_44, .inl (z_45, 802, .inl (fun _ => 0))), (q_46, .inl (z_47, 401, .inl (fun _ => 0))), (q_48, .inl (z_49, 401, .inl (fun _ => 0))), (q_50, .inl (z_51, 401, .inl (fun _ => 0))), (q_52, .inl (z_53, 402, .inl (fun _ => 0))), (q_54, .inl (z_55, 20, .inl (fun _ => 0))), (q_56, .inl (z_57, 802, .inl (fun _ => 0))), (q_58, .inl (z_59, 802, .inl (fun _ => 0)))] H := hP
  have hD : va_D A [(h0, .inr (6, [.ref q_1, .ref q_3, .ref q_10, .null, .int 0, .int 0, .int 0, .int 0])), (q_1, .inl (z_2, 20, .inl (fun _ => 0))), (q_3, .inr (2, [.ref q_4, .ref q_6, .ref q_8, .int 0])), (q_4, .inl (z_5, 64, .inl (fun _ => 0))), (q_6, .inl (z_7, 64, .inl (fun _ => 0))), (q_8, .inl (z_9, 256, .inl (fun _ => 0))), (q_11, .inr (2, [.ref q_12, .ref q_14, .ref q_16, .int 0])), (q_12, .inl (z_13, 64, .inl (fun _ => 0))), (q_14, .inl (z_15, 64, .inl (fun _ => 0))), (q_16, .inl (z_17, 256, .inl (fun _ => 0))), (q_18, .inr (4, [.ref q_19, .ref q_21, .ref q_23, .ref q_25, .ref q_27, .int 0, .int 0, .int 0, .int 1])), (q_19, .inl (z_20, 802, .inl (fun _ => 0))), (q_21, .inl (z_22, 401, .inl (fun _ => 0))), (q_23, .inl (z_24, 401, .inl (fun _ => 0))), (q_25, .inl (z_26, 401, .inl (fun _ => 0))), (q_27, .inl (z_28, 402, .inl (fun _ => 0))), (q_10, .inr (3, [.ref q_11, .ref q_18, .ref q_29, .ref q_35, .ref q_42, .ref q_54, .ref q_56, .ref q_58, .int 0, .int 0, .int 0, .int 0])), (q_29, .inr (5, [.ref q_11, .ref q_18, .ref q_32, .ref q_30])), (q_30, .inl (z_31, 128, .inl (fun _ => 0))), (q_32, .inl (z_33, 802, .inl g_34)), (q_35, .inr (1, [.ref q_11, .ref q_18, .ref q_36, .ref q_38, .ref q_40, .int 0, .int 0, .int 0])), (q_36, .inl (z_37, 401, .inl (fun _ => 0))), (q_38, .inl (z_39, 401, .inl (fun _ => 0))), (q_40, .inl (z_41, 401, .inl (fun _ => 0))), (q_42, .inr (0, [.ref q_11, .ref q_43])), (q_43, .inr (4, [.ref q_44, .ref q_46, .ref q_48, .ref q_50, .ref q_52, .int 0, .int 0, .int 0, .int 1])), (q_44, .inl (z_45, 802, .inl (fun _ => 0))), (q_46, .inl (z_47, 401, .inl (fun _ => 0))), (q_48, .inl (z_49, 401, .inl (fun _ => 0))), (q_50, .inl (z_51, 401, .inl (fun _ => 0))), (q_52, .inl (z_53, 402, .inl (fun _ => 0))), (q_54, .inl (z_55, 20, .inl (fun _ => 0))), (q_56, .inl (z_57, 802, .inl (fun _ => 0))), (q_58, .inl (z_59, 802, .inl (fun _ => 0)))] := hD
  refine lv_aload_n hx hb d_Cs_init_48 rfl (lv_at hl 0 rfl) ?_
  refine lv_sipush (v := 401) hx hb d_Cs_init_49 (by decide) ?_
  refine va_newa (atype := .boolean) hx hb (hw (Cond.arrayClass .boolean) k_201) (ty := .boolean) rfl hK hP hD hS hA (n := 401) (N' := 401) (a0 := (401, .inl (fun _ => 0))) (fun _ => rfl) (by decide) (by decide) (by decide) (Nat.le_of_ble_eq_true rfl) (Nat.le_of_ble_eq_true rfl) d_Cs_init_52 (fun q_61 z_62 H hK hP hD hS => ?_)
  have hP : va_P (dC, dI) vwCl [(h0, .inr (6, [.ref q_1, .ref q_3, .ref q_10, .null, .int 0, .int 0, .int 0, .int 0])), (q_1, .inl (z_2, 20, .inl (fun _ => 0))), (q_3, .inr (2, [.ref q_4, .ref q_6, .ref q_8, .int 0])), (q_4, .inl (z_5, 64, .inl (fun _ => 0))), (q_6, .inl (z_7, 64, .inl (fun _ => 0))), (q_8, .inl (z_9, 256, .inl (fun _ => 0))), (q_11, .inr (2, [.ref q_12, .ref q_14, .ref q_16, .int 0])), (q_12, .inl (z_13, 64, .inl (fun _ => 0))), (q_14, .inl (z_15, 64, .inl (fun _ => 0))), (q_16, .inl (z_17, 256, .inl (fun _ => 0))), (q_18, .inr (4, [.ref q_19, .ref q_21, .ref q_23, .ref q_25, .ref q_27, .int 0, .int 0, .int 0, .int 1])), (q_19, .inl (z_20, 802, .inl (fun _ => 0))), (q_21, .inl (z_22, 401, .inl (fun _ => 0))), (q_23, .inl (z_24, 401, .inl (fun _ => 0))), (q_25, .inl (z_26, 401, .inl (fun _ => 0))), (q_27, .inl (z_28, 402, .inl (fun _ => 0))), (q_10, .inr (3, [.ref q_11, .ref q_18, .ref q_29, .ref q_35, .ref q_42, .ref q_54, .ref q_56, .ref q_58, .int 0, .int 0, .int 0, .int 0])), (q_29, .inr (5, [.ref q_11, .ref q_18, .ref q_32, .ref q_30])), (q_30, .inl (z_31, 128, .inl (fun _ => 0))), (q_32, .inl (z_33, 802, .inl g_34)), (q_35, .inr (1, [.ref q_11, .ref q_18, .ref q_36, .ref q_38, .ref q_40, .int 0, .int 0, .int 0])), (q_36, .inl (z_37, 401, .inl (fun _ => 0))), (q_38, .inl (z_39, 401, .inl (fun _ => 0))), (q_40, .inl (z_41, 401, .inl (fun _ => 0))), (q_42, .inr (0, [.ref q_11, .ref q_43])), (q_43, .inr (4, [.ref q_44, .ref q_46, .ref q_48, .ref q_50, .ref q_52, .int 0, .int 0, .int 0, .int 1])), (q_44, .inl (z_45, 802, .inl (fun _ => 0))), (q_46, .inl (z_47, 401, .inl (fun _ => 0))), (q_48, .inl (z_49, 401, .inl (fun _ => 0))), (q_50, .inl (z_51, 401, .inl (fun _ => 0))), (q_52, .inl (z_53, 402, .inl (fun _ => 0))), (q_54, .inl (z_55, 20, .inl (fun _ => 0))), (q_56, .inl (z_57, 802, .inl (fun _ => 0))), (q_58, .inl (z_59, 802, .inl (fun _ => 0))), (q_61, .inl (z_62, 401, .inl (fun _ => 0)))] H := hP
  have hD : va_D A [(h0, .inr (6, [.ref q_1, .ref q_3, .ref q_10, .null, .int 0, .int 0, .int 0, .int 0])), (q_1, .inl (z_2, 20, .inl (fun _ => 0))), (q_3, .inr (2, [.ref q_4, .ref q_6, .ref q_8, .int 0])), (q_4, .inl (z_5, 64, .inl (fun _ => 0))), (q_6, .inl (z_7, 64, .inl (fun _ => 0))), (q_8, .inl (z_9, 256, .inl (fun _ => 0))), (q_11, .inr (2, [.ref q_12, .ref q_14, .ref q_16, .int 0])), (q_12, .inl (z_13, 64, .inl (fun _ => 0))), (q_14, .inl (z_15, 64, .inl (fun _ => 0))), (q_16, .inl (z_17, 256, .inl (fun _ => 0))), (q_18, .inr (4, [.ref q_19, .ref q_21, .ref q_23, .ref q_25, .ref q_27, .int 0, .int 0, .int 0, .int 1])), (q_19, .inl (z_20, 802, .inl (fun _ => 0))), (q_21, .inl (z_22, 401, .inl (fun _ => 0))), (q_23, .inl (z_24, 401, .inl (fun _ => 0))), (q_25, .inl (z_26, 401, .inl (fun _ => 0))), (q_27, .inl (z_28, 402, .inl (fun _ => 0))), (q_10, .inr (3, [.ref q_11, .ref q_18, .ref q_29, .ref q_35, .ref q_42, .ref q_54, .ref q_56, .ref q_58, .int 0, .int 0, .int 0, .int 0])), (q_29, .inr (5, [.ref q_11, .ref q_18, .ref q_32, .ref q_30])), (q_30, .inl (z_31, 128, .inl (fun _ => 0))), (q_32, .inl (z_33, 802, .inl g_34)), (q_35, .inr (1, [.ref q_11, .ref q_18, .ref q_36, .ref q_38, .ref q_40, .int 0, .int 0, .int 0])), (q_36, .inl (z_37, 401, .inl (fun _ => 0))), (q_38, .inl (z_39, 401, .inl (fun _ => 0))), (q_40, .inl (z_41, 401, .inl (fun _ => 0))), (q_42, .inr (0, [.ref q_11, .ref q_43])), (q_43, .inr (4, [.ref q_44, .ref q_46, .ref q_48, .ref q_50, .ref q_52, .int 0, .int 0, .int 0, .int 1])), (q_44, .inl (z_45, 802, .inl (fun _ => 0))), (q_46, .inl (z_47, 401, .inl (fun _ => 0))), (q_48, .inl (z_49, 401, .inl (fun _ => 0))), (q_50, .inl (z_51, 401, .inl (fun _ => 0))), (q_52, .inl (z_53, 402, .inl (fun _ => 0))), (q_54, .inl (z_55, 20, .inl (fun _ => 0))), (q_56, .inl (z_57, 802, .inl (fun _ => 0))), (q_58, .inl (z_59, 802, .inl (fun _ => 0))), (q_61, .inl (z_62, 401, .inl (fun _ => 0)))] := hD
  have hK : va_K (dC, dI) vwCl [(z_2, .int), (z_5, .int), (z_7, .int), (z_9, .int), (z_13, .int), (z_15, .int), (z_17, .int), (z_20, .byte), (z_22, .int), (z_24, .int), (z_26, .int), (z_28, .int), (z_33, .int), (z_31, .int), (z_37, .boolean), (z_39, .int), (z_41, .int), (z_45, .byte), (z_47, .int), (z_49, .int), (z_51, .int), (z_53, .int), (z_55, .int), (z_57, .int), (z_59, .boolean), (z_62, .boolean)] s := hK
  refine W.widen (k := 34) (n := 9812) (by decide) (by decide) ?_
  refine va_putF (D := (dC, dI)) (ci := 6) (v := .ref q_61) (ty := .array .boolean) (C := R_Cs) (T := F_Cs) (N := 8) hx hb hw in_Cs t_Cs t_Cs_ok n_Cs hown hK hP hD hS 0 rfl rfl 3 (by decide) (hw (Cond.fieldLink "ClauseSearch" 32 "ClauseSearch" "way" "[Z") k_258) (fun _ h9 => h9) rfl hin rfl (by decide +kernel) rfl rfl (Nat.le_of_ble_eq_true rfl) d_Cs_init_54 (fun H locs hP hD hS => ?_)
  have hP : va_P (dC, dI) vwCl [(h0, .inr (6, [.ref q_1, .ref q_3, .ref q_10, .ref q_61, .int 0, .int 0, .int 0, .int 0])), (q_1, .inl (z_2, 20, .inl (fun _ => 0))), (q_3, .inr (2, [.ref q_4, .ref q_6, .ref q_8, .int 0])), (q_4, .inl (z_5, 64, .inl (fun _ => 0))), (q_6, .inl (z_7, 64, .inl (fun _ => 0))), (q_8, .inl (z_9, 256, .inl (fun _ => 0))), (q_11, .inr (2, [.ref q_12, .ref q_14, .ref q_16, .int 0])), (q_12, .inl (z_13, 64, .inl (fun _ => 0))), (q_14, .inl (z_15, 64, .inl (fun _ => 0))), (q_16, .inl (z_17, 256, .inl (fun _ => 0))), (q_18, .inr (4, [.ref q_19, .ref q_21, .ref q_23, .ref q_25, .ref q_27, .int 0, .int 0, .int 0, .int 1])), (q_19, .inl (z_20, 802, .inl (fun _ => 0))), (q_21, .inl (z_22, 401, .inl (fun _ => 0))), (q_23, .inl (z_24, 401, .inl (fun _ => 0))), (q_25, .inl (z_26, 401, .inl (fun _ => 0))), (q_27, .inl (z_28, 402, .inl (fun _ => 0))), (q_10, .inr (3, [.ref q_11, .ref q_18, .ref q_29, .ref q_35, .ref q_42, .ref q_54, .ref q_56, .ref q_58, .int 0, .int 0, .int 0, .int 0])), (q_29, .inr (5, [.ref q_11, .ref q_18, .ref q_32, .ref q_30])), (q_30, .inl (z_31, 128, .inl (fun _ => 0))), (q_32, .inl (z_33, 802, .inl g_34)), (q_35, .inr (1, [.ref q_11, .ref q_18, .ref q_36, .ref q_38, .ref q_40, .int 0, .int 0, .int 0])), (q_36, .inl (z_37, 401, .inl (fun _ => 0))), (q_38, .inl (z_39, 401, .inl (fun _ => 0))), (q_40, .inl (z_41, 401, .inl (fun _ => 0))), (q_42, .inr (0, [.ref q_11, .ref q_43])), (q_43, .inr (4, [.ref q_44, .ref q_46, .ref q_48, .ref q_50, .ref q_52, .int 0, .int 0, .int 0, .int 1])), (q_44, .inl (z_45, 802, .inl (fun _ => 0))), (q_46, .inl (z_47, 401, .inl (fun _ => 0))), (q_48, .inl (z_49, 401, .inl (fun _ => 0))), (q_50, .inl (z_51, 401, .inl (fun _ => 0))), (q_52, .inl (z_53, 402, .inl (fun _ => 0))), (q_54, .inl (z_55, 20, .inl (fun _ => 0))), (q_56, .inl (z_57, 802, .inl (fun _ => 0))), (q_58, .inl (z_59, 802, .inl (fun _ => 0))), (q_61, .inl (z_62, 401, .inl (fun _ => 0)))] H := hP
  have hD : va_D A [(h0, .inr (6, [.ref q_1, .ref q_3, .ref q_10, .ref q_61, .int 0, .int 0, .int 0, .int 0])), (q_1, .inl (z_2, 20, .inl (fun _ => 0))), (q_3, .inr (2, [.ref q_4, .ref q_6, .ref q_8, .int 0])), (q_4, .inl (z_5, 64, .inl (fun _ => 0))), (q_6, .inl (z_7, 64, .inl (fun _ => 0))), (q_8, .inl (z_9, 256, .inl (fun _ => 0))), (q_11, .inr (2, [.ref q_12, .ref q_14, .ref q_16, .int 0])), (q_12, .inl (z_13, 64, .inl (fun _ => 0))), (q_14, .inl (z_15, 64, .inl (fun _ => 0))), (q_16, .inl (z_17, 256, .inl (fun _ => 0))), (q_18, .inr (4, [.ref q_19, .ref q_21, .ref q_23, .ref q_25, .ref q_27, .int 0, .int 0, .int 0, .int 1])), (q_19, .inl (z_20, 802, .inl (fun _ => 0))), (q_21, .inl (z_22, 401, .inl (fun _ => 0))), (q_23, .inl (z_24, 401, .inl (fun _ => 0))), (q_25, .inl (z_26, 401, .inl (fun _ => 0))), (q_27, .inl (z_28, 402, .inl (fun _ => 0))), (q_10, .inr (3, [.ref q_11, .ref q_18, .ref q_29, .ref q_35, .ref q_42, .ref q_54, .ref q_56, .ref q_58, .int 0, .int 0, .int 0, .int 0])), (q_29, .inr (5, [.ref q_11, .ref q_18, .ref q_32, .ref q_30])), (q_30, .inl (z_31, 128, .inl (fun _ => 0))), (q_32, .inl (z_33, 802, .inl g_34)), (q_35, .inr (1, [.ref q_11, .ref q_18, .ref q_36, .ref q_38, .ref q_40, .int 0, .int 0, .int 0])), (q_36, .inl (z_37, 401, .inl (fun _ => 0))), (q_38, .inl (z_39, 401, .inl (fun _ => 0))), (q_40, .inl (z_41, 401, .inl (fun _ => 0))), (q_42, .inr (0, [.ref q_11, .ref q_43])), (q_43, .inr (4, [.ref q_44, .ref q_46, .ref q_48, .ref q_50, .ref q_52, .int 0, .int 0, .int 0, .int 1])), (q_44, .inl (z_45, 802, .inl (fun _ => 0))), (q_46, .inl (z_47, 401, .inl (fun _ => 0))), (q_48, .inl (z_49, 401, .inl (fun _ => 0))), (q_50, .inl (z_51, 401, .inl (fun _ => 0))), (q_52, .inl (z_53, 402, .inl (fun _ => 0))), (q_54, .inl (z_55, 20, .inl (fun _ => 0))), (q_56, .inl (z_57, 802, .inl (fun _ => 0))), (q_58, .inl (z_59, 802, .inl (fun _ => 0))), (q_61, .inl (z_62, 401, .inl (fun _ => 0)))] := hD
  refine W.widen (k := 34) (n := 9812) (by decide) (by decide) ?_
  exact W.vret hx hb hr (fun t ht hW => ⟨⟨(), rfl, trivial, q_1, z_2, q_3, q_4, z_5, q_6, z_7, q_8, z_9, q_11, q_12, z_13, q_14, z_15, q_16, z_17, q_18, q_19, z_20, q_21, z_22, q_23, z_24, q_25, z_26, q_27, z_28, q_10, q_29, q_30, z_31, q_32, z_33, g_34, q_35, q_36, z_37, q_38, z_39, q_40, z_41, q_42, q_43, q_44, z_45, q_46, z_47, q_48, z_49, q_50, z_51, q_52, z_53, q_54, z_55, q_56, z_57, q_58, z_59, q_61, z_62, f_60, by rw [ht]; exact hP, va_K.moved hW.alike hK, hD⟩, hS.F ht⟩) hS.2.2 d_Cs_init_57
end
section
abbrev y_Md_init : MethodName := ⟨"ClauseSearchModel", "<init>", "()V"⟩
theorem k_602 : (Cond.methodLink "ClauseSearchModel" 1 ⟨"java/lang/Object", "<init>", "()V"⟩) ∈ bg_W := bg_in 602 (by decide +kernel) (by decide +kernel)
theorem k_603 : (Cond.constant "ClauseSearchModel" 7 80000) ∈ bg_W := bg_in 603 (by decide +kernel) (by decide +kernel)
theorem k_604 : (Cond.fieldLink "ClauseSearchModel" 8 "ClauseSearchModel" "literal" "[I") ∈ bg_W := bg_in 604 (by decide +kernel) (by decide +kernel)
theorem k_605 : (Cond.fieldLink "ClauseSearchModel" 14 "ClauseSearchModel" "first" "[I") ∈ bg_W := bg_in 605 (by decide +kernel) (by decide +kernel)
theorem k_606 : (Cond.fieldLink "ClauseSearchModel" 17 "ClauseSearchModel" "row" "[I") ∈ bg_W := bg_in 606 (by decide +kernel) (by decide +kernel)
theorem k_607 : (Cond.fieldLink "ClauseSearchModel" 20 "ClauseSearchModel" "assumed" "[I") ∈ bg_W := bg_in 607 (by decide +kernel) (by decide +kernel)
theorem k_608 : (Cond.fieldLink "ClauseSearchModel" 23 "ClauseSearchModel" "way" "[I") ∈ bg_W := bg_in 608 (by decide +kernel) (by decide +kernel)
theorem k_615 : (Cond.fieldLink "ClauseSearchModel" 26 "ClauseSearchModel" "trail" "[I") ∈ bg_W := bg_in 615 (by decide +kernel) (by decide +kernel)
theorem k_617 : (Cond.fieldLink "ClauseSearchModel" 29 "ClauseSearchModel" "chosen" "[I") ∈ bg_W := bg_in 617 (by decide +kernel) (by decide +kernel)
theorem k_618 : (Cond.fieldLink "ClauseSearchModel" 32 "ClauseSearchModel" "mark" "[I") ∈ bg_W := bg_in 618 (by decide +kernel) (by decide +kernel)
theorem d_Md_init_0 : decode prog_9_method_1_code 0 = .ok (.aload_n 0, 1) := by decide +kernel
theorem d_Md_init_1 : decode prog_9_method_1_code 1 = .ok (.invokespecial 1, 3) := by decide +kernel
theorem d_Md_init_4 : decode prog_9_method_1_code 4 = .ok (.aload_n 0, 1) := by decide +kernel
theorem d_Md_init_5 : decode prog_9_method_1_code 5 = .ok (.ldc 7, 2) := by decide +kernel
theorem d_Md_init_7 : decode prog_9_method_1_code 7 = .ok (.newarray .int, 2) := by decide +kernel
theorem d_Md_init_9 : decode prog_9_method_1_code 9 = .ok (.putfield 8, 3) := by decide +kernel
theorem d_Md_init_12 : decode prog_9_method_1_code 12 = .ok (.aload_n 0, 1) := by decide +kernel
theorem d_Md_init_13 : decode prog_9_method_1_code 13 = .ok (.sipush 4001, 3) := by decide +kernel
theorem d_Md_init_16 : decode prog_9_method_1_code 16 = .ok (.newarray .int, 2) := by decide +kernel
theorem d_Md_init_18 : decode prog_9_method_1_code 18 = .ok (.putfield 14, 3) := by decide +kernel
theorem d_Md_init_21 : decode prog_9_method_1_code 21 = .ok (.aload_n 0, 1) := by decide +kernel
theorem d_Md_init_22 : decode prog_9_method_1_code 22 = .ok (.bipush 20, 2) := by decide +kernel
theorem d_Md_init_24 : decode prog_9_method_1_code 24 = .ok (.newarray .int, 2) := by decide +kernel
theorem d_Md_init_26 : decode prog_9_method_1_code 26 = .ok (.putfield 17, 3) := by decide +kernel
theorem d_Md_init_29 : decode prog_9_method_1_code 29 = .ok (.aload_n 0, 1) := by decide +kernel
theorem d_Md_init_30 : decode prog_9_method_1_code 30 = .ok (.bipush 20, 2) := by decide +kernel
theorem d_Md_init_32 : decode prog_9_method_1_code 32 = .ok (.newarray .int, 2) := by decide +kernel
theorem d_Md_init_34 : decode prog_9_method_1_code 34 = .ok (.putfield 20, 3) := by decide +kernel
theorem d_Md_init_37 : decode prog_9_method_1_code 37 = .ok (.aload_n 0, 1) := by decide +kernel
theorem d_Md_init_38 : decode prog_9_method_1_code 38 = .ok (.sipush 401, 3) := by decide +kernel
theorem d_Md_init_41 : decode prog_9_method_1_code 41 = .ok (.newarray .int, 2) := by decide +kernel
theorem d_Md_init_43 : decode prog_9_method_1_code 43 = .ok (.putfield 23, 3) := by decide +kernel
theorem d_Md_init_46 : decode prog_9_method_1_code 46 = .ok (.aload_n 0, 1) := by decide +kernel
theorem d_Md_init_47 : decode prog_9_method_1_code 47 = .ok (.sipush 401, 3) := by decide +kernel
theorem d_Md_init_50 : decode prog_9_method_1_code 50 = .ok (.newarray .int, 2) := by decide +kernel
theorem d_Md_init_52 : decode prog_9_method_1_code 52 = .ok (.putfield 26, 3) := by decide +kernel
theorem d_Md_init_55 : decode prog_9_method_1_code 55 = .ok (.aload_n 0, 1) := by decide +kernel
theorem d_Md_init_56 : decode prog_9_method_1_code 56 = .ok (.sipush 401, 3) := by decide +kernel
theorem d_Md_init_59 : decode prog_9_method_1_code 59 = .ok (.newarray .int, 2) := by decide +kernel
theorem d_Md_init_61 : decode prog_9_method_1_code 61 = .ok (.putfield 29, 3) := by decide +kernel
theorem d_Md_init_64 : decode prog_9_method_1_code 64 = .ok (.aload_n 0, 1) := by decide +kernel
theorem d_Md_init_65 : decode prog_9_method_1_code 65 = .ok (.sipush 401, 3) := by decide +kernel
theorem d_Md_init_68 : decode prog_9_method_1_code 68 = .ok (.newarray .int, 2) := by decide +kernel
theorem d_Md_init_70 : decode prog_9_method_1_code 70 = .ok (.putfield 32, 3) := by decide +kernel
theorem d_Md_init_73 : decode prog_9_method_1_code 73 = .ok (.return_, 1) := by decide +kernel
set_option maxHeartbeats 4000000 in
set_option maxRecDepth 100000 in
/-- ClauseSearchModel() -/
theorem c_Md_init (l : Launch) (dC : Nat → ClassId) (dI : Nat → Nat → Nat) (h0 : Nat) (sz : Nat) : Met l y_Md_init (wq y_Md_init prog_9_method_1_code 1 none) ({ frames := 1, cells := 8, slots := 85645, locals := 12 }) (va_Pc [.ref h0] (fun U => U.heap.size = sz ∧ va_P (dC, dI) vwCl [(h0, .inr (7, [.null, .null, .null, .null, .null, .int 0, .int 0, .int 0, .int 0, .int 0, .int 0, .null, .int 0, .null, .null]))] U.heap ∧ va_K (dC, dI) vwCl [] U ∧ va_D (fun _ => True) [(h0, .inr (7, [.null, .null, .null, .null, .null, .int 0, .int 0, .int 0, .int 0, .int 0, .int 0, .null, .int 0, .null, .null]))])) (va_Qv (fun _ : Unit => True) (fun (_ : Unit) t => ∃ (q_1 : Nat) (z_2 : ClassId) (q_3 : Nat) (z_4 : ClassId) (q_5 : Nat) (z_6 : ClassId) (q_7 : Nat) (z_8 : ClassId) (q_9 : Nat) (z_10 : ClassId) (q_11 : Nat) (z_12 : ClassId) (q_13 : Nat) (z_14 : ClassId) (q_15 : Nat) (z_16 : ClassId), va_P (dC, dI) vwCl [(h0, .inr (7, [.ref q_1, .ref q_3, .ref q_5, .ref q_7, .ref q_9, .int 0, .int 0, .int 0, .int 0, .int 0, .int 0, .ref q_11, .int 0, .ref q_13, .ref q_15])), (q_1, .inl (z_2, 80000, .inl (fun _ => 0))), (q_3, .inl (z_4, 4001, .inl (fun _ => 0))), (q_5, .inl (z_6, 20, .inl (fun _ => 0))), (q_7, .inl (z_8, 20, .inl (fun _ => 0))), (q_9, .inl (z_10, 401, .inl (fun _ => 0))), (q_11, .inl (z_12, 401, .inl (fun _ => 0))), (q_13, .inl (z_14, 401, .inl (fun _ => 0))), (q_15, .inl (z_16, 401, .inl (fun _ => 0)))] t.heap ∧ va_K (dC, dI) vwCl [(z_2, .int), (z_4, .int), (z_6, .int), (z_8, .int), (z_10, .int), (z_12, .int), (z_14, .int), (z_16, .int)] t ∧ va_D (va_A [(h0, .inr (7, [.null, .null, .null, .null, .null, .int 0, .int 0, .int 0, .int 0, .int 0, .int 0, .null, .int 0, .null, .null]))] sz) [(h0, .inr (7, [.ref q_1, .ref q_3, .ref q_5, .ref q_7, .ref q_9, .int 0, .int 0, .int 0, .int 0, .int 0, .int 0, .ref q_11, .int 0, .ref q_13, .ref q_15])), (q_1, .inl (z_2, 80000, .inl (fun _ => 0))), (q_3, .inl (z_4, 4001, .inl (fun _ => 0))), (q_5, .inl (z_6, 20, .inl (fun _ => 0))), (q_7, .inl (z_8, 20, .inl (fun _ => 0))), (q_9, .inl (z_10, 401, .inl (fun _ => 0))), (q_11, .inl (z_12, 401, .inl (fun _ => 0))), (q_13, .inl (z_14, 401, .inl (fun _ => 0))), (q_15, .inl (z_16, 401, .inl (fun _ => 0)))]) (va_A [(h0, .inr (7, [.null, .null, .null, .null, .null, .int 0, .int 0, .int 0, .int 0, .int 0, .int 0, .null, .int 0, .null, .null]))] sz)) 8 85645 (va_A [(h0, .inr (7, [.null, .null, .null, .null, .null, .int 0, .int 0, .int 0, .int 0, .int 0, .int 0, .null, .int 0, .null, .null]))] sz) := by
  refine Met.ofW (cc := prog_9_method_1_code) (maxL := 1) (ret := none) (by decide) rfl ?_
  intro p e s m args below meth c s₁ B hml hv
  obtain ⟨rfl, hsz, hP, hK, hD0⟩ := hv
  have hx := B.exec
  have hb := B.bytes
  have hr := B.returns
  have hw : ∀ w ∈ bg_W, w.before #[Value.ref h0] s = true := fun w h => atoms_spec (ws := (wq y_Md_init prog_9_method_1_code 1 none)) B.pre w (List.mem_cons_of_mem _ h)
  have hown : s.vm.findClass R_Md = some m.cls := findClass_of_methodNamed B.named
  have hlocks := B.notSynchronized
  have hin : meth.name = "<init>" := (name_of_methodNamed B.named B.method).1
  subst hsz
  have hD := hD0.self (sz := s.heap.size)
  generalize hAe : va_A [(h0, .inr (7, [.null, .null, .null, .null, .null, .int 0, .int 0, .int 0, .int 0, .int 0, .int 0, .null, .int 0, .null, .null]))] s.heap.size = A at hD ⊢
  have hA : ∀ q : Nat, s.heap.size ≤ q → A q := fun q h => by rw [← hAe]; exact Or.inr h
  have hS : va_S A s.heap s.heap [] := va_S.rf
  have hP : va_P (dC, dI) vwCl [(h0, .inr (7, [.null, .null, .null, .null, .null, .int 0, .int 0, .int 0, .int 0, .int 0, .int 0, .null, .int 0, .null, .null]))] s.heap := hP
  have hl := lv_entry ([.ref h0]) (n := 1) (Nat.le_of_ble_eq_true rfl)
  rw [lg_entry_eq]
  generalize (lg_sl ([.ref h0]) ++ List.replicate (1 - (lg_sl ([.ref h0])).length) Slot.unset).toArray = ls at hl ⊢
  have hl : lv_has ls 1 [(0, .ref h0)] := hl
  obtain ⟨H, hH⟩ : ∃ H : Heap, H = s.heap := ⟨_, rfl⟩
  rw [← hH] at hP
  have hS : va_S A s.heap H [] := by rw [hH]; exact va_S.rf
  show W p l e _ s m _ below meth c s.heap [] 0 0 _ _
  rw [← hH]
  refine lv_aload_n hx hb d_Md_init_0 rfl (lv_at hl 0 rfl) ?_
  refine W.objInit hx hb hown (hw (Cond.methodLink "ClauseSearchModel" 1 ⟨"java/lang/Object", "<init>", "()V"⟩) k_602) (hw (Cond.instanceMethod ⟨"java/lang/Object", "<init>", "()V"⟩) k_52) (hw (Cond.code ⟨"java/lang/Object", "<init>", "()V"⟩ object_method_1_code 1 none) k_53) rfl (by rw [hml]; exact hl.1) rfl d_Md_init_1 (Nat.le_of_ble_eq_true rfl) (Nat.le_of_ble_eq_true rfl) ?_
  refine W.eq (g2 := F0 m 4 ls []) rfl ?_
  refine lv_aload_n hx hb d_Md_init_4 rfl (lv_at hl 0 rfl) ?_
  refine lv_ldc (v := 80000) hx hb hown (hw (Cond.constant "ClauseSearchModel" 7 80000) k_603) d_Md_init_5 ?_
  refine va_newa (atype := .int) hx hb (hw (Cond.arrayClass .int) k_87) (ty := .int) rfl hK hP hD hS hA (n := 80000) (N' := 80000) (a0 := (80000, .inl (fun _ => 0))) (fun _ => rfl) (by decide) (by decide) (by decide) (Nat.le_of_ble_eq_true rfl) (Nat.le_of_ble_eq_true rfl) d_Md_init_7 (fun q_1 z_2 H hK hP hD hS => ?_)
  have hP : va_P (dC, dI) vwCl [(h0, .inr (7, [.null, .null, .null, .null, .null, .int 0, .int 0, .int 0, .int 0, .int 0, .int 0, .null, .int 0, .null, .null])), (q_1, .inl (z_2, 80000, .inl (fun _ => 0)))] H := hP
  have hD : va_D A [(h0, .inr (7, [.null, .null, .null, .null, .null, .int 0, .int 0, .int 0, .int 0, .int 0, .int 0, .null, .int 0, .null, .null])), (q_1, .inl (z_2, 80000, .inl (fun _ => 0)))] := hD
  have hK : va_K (dC, dI) vwCl [(z_2, .int)] s := hK
  refine W.widen (k := 1) (n := 80000) (by decide) (by decide) ?_
  refine va_putF (D := (dC, dI)) (ci := 7) (v := .ref q_1) (ty := .array .int) (C := R_Md) (T := F_Md) (N := 15) hx hb hw in_Md t_Md t_Md_ok n_Md hown hK hP hD hS 0 rfl rfl 0 (by decide) (hw (Cond.fieldLink "ClauseSearchModel" 8 "ClauseSearchModel" "literal" "[I") k_604) (fun _ h9 => h9) rfl hin rfl (by decide +kernel) rfl rfl (Nat.le_of_ble_eq_true rfl) d_Md_init_9 (fun H locs hP hD hS => ?_)
  have hP : va_P (dC, dI) vwCl [(h0, .inr (7, [.ref q_1, .null, .null, .null, .null, .int 0, .int 0, .int 0, .int 0, .int 0, .int 0, .null, .int 0, .null, .null])), (q_1, .inl (z_2, 80000, .inl (fun _ => 0)))] H := hP
  have hD : va_D A [(h0, .inr (7, [.ref q_1, .null, .null, .null, .null, .int 0, .int 0, .int 0, .int 0, .int 0, .int 0, .null, .int 0, .null, .null])), (q_1, .inl (z_2, 80000, .inl (fun _ => 0)))] := hD
  refine lv_aload_n hx hb d_Md_init_12 rfl (lv_at hl 0 rfl) ?_
  refine lv_sipush (v := 4001) hx hb d_Md_init_13 (by decide) ?_
  refine va_newa (atype := .int) hx hb (hw (Cond.arrayClass .int) k_87) (ty := .int) rfl hK hP hD hS hA (n := 4001) (N' := 4001) (a0 := (4001, .inl (fun _ => 0))) (fun _ => rfl) (by decide) (by decide) (by decide) (Nat.le_of_ble_eq_true rfl) (Nat.le_of_ble_eq_true rfl) d_Md_init_16 (fun q_3 z_4 H hK hP hD hS => ?_)
  have hP : va_P (dC, dI) vwCl [(h0, .inr (7, [.ref q_1, .null, .null, .null, .null, .int 0, .int 0, .int 0, .int 0, .int 0, .int 0, .null, .int 0, .null, .null])), (q_1, .inl (z_2, 80000, .inl (fun _ => 0))), (q_3, .inl (z_4, 4001, .inl (fun _ => 0)))] H := hP
  have hD : va_D A [(h0, .inr (7, [.ref q_1, .null, .null, .null, .null, .int 0, .int 0, .int 0, .int 0, .int 0, .int 0, .null, .int 0, .null, .null])), (q_1, .inl (z_2, 80000, .inl (fun _ => 0))), (q_3, .inl (z_4, 4001, .inl (fun _ => 0)))] := hD
  have hK : va_K (dC, dI) vwCl [(z_2, .int), (z_4, .int)] s := hK
  refine W.widen (k := 2) (n := 84001) (by decide) (by decide) ?_
  refine va_putF (D := (dC, dI)) (ci := 7) (v := .ref q_3) (ty := .array .int) (C := R_Md) (T := F_Md) (N := 15) hx hb hw in_Md t_Md t_Md_ok n_Md hown hK hP hD hS 0 rfl rfl 1 (by decide) (hw (Cond.fieldLink "ClauseSearchModel" 14 "ClauseSearchModel" "first" "[I") k_605) (fun _ h9 => h9) rfl hin rfl (by decide +kernel) rfl rfl (Nat.le_of_ble_eq_true rfl) d_Md_init_18 (fun H locs hP hD hS => ?_)
  have hP : va_P (dC, dI) vwCl [(h0, .inr (7, [.ref q_1, .ref q_3, .null, .null, .null, .int 0, .int 0, .int 0, .int 0, .int 0, .int 0, .null, .int 0, .null, .null])), (q_1, .inl (z_2, 80000, .inl (fun _ => 0))), (q_3, .inl (z_4, 4001, .inl (fun _ => 0)))] H := hP
  have hD : va_D A [(h0, .inr (7, [.ref q_1, .ref q_3, .null, .null, .null, .int 0, .int 0, .int 0, .int 0, .int 0, .int 0, .null, .int 0, .null, .null])), (q_1, .inl (z_2, 80000, .inl (fun _ => 0))), (q_3, .inl (z_4, 4001, .inl (fun _ => 0)))] := hD
  refine lv_aload_n hx hb d_Md_init_21 rfl (lv_at hl 0 rfl) ?_
  refine lv_bipush (v := 20) hx hb d_Md_init_22 (by decide) ?_
  refine va_newa (atype := .int) hx hb (hw (Cond.arrayClass .int) k_87) (ty := .int) rfl hK hP hD hS hA (n := 20) (N' := 20) (a0 := (20, .inl (fun _ => 0))) (fun _ => rfl) (by decide) (by decide) (by decide) (Nat.le_of_ble_eq_true rfl) (Nat.le_of_ble_eq_true rfl) d_Md_init_24 (fun q_5 z_6 H hK hP hD hS => ?_)
  have hP : va_P (dC, dI) vwCl [(h0, .inr (7, [.ref q_1, .ref q_3, .null, .null, .null, .int 0, .int 0, .int 0, .int 0, .int 0, .int 0, .null, .int 0, .null, .null])), (q_1, .inl (z_2, 80000, .inl (fun _ => 0))), (q_3, .inl (z_4, 4001, .inl (fun _ => 0))), (q_5, .inl (z_6, 20, .inl (fun _ => 0)))] H := hP
  have hD : va_D A [(h0, .inr (7, [.ref q_1, .ref q_3, .null, .null, .null, .int 0, .int 0, .int 0, .int 0, .int 0, .int 0, .null, .int 0, .null, .null])), (q_1, .inl (z_2, 80000, .inl (fun _ => 0))), (q_3, .inl (z_4, 4001, .inl (fun _ => 0))), (q_5, .inl (z_6, 20, .inl (fun _ => 0)))] := hD
  have hK : va_K (dC, dI) vwCl [(z_2, .int), (z_4, .int), (z_6, .int)] s := hK
  refine W.widen (k := 3) (n := 84021) (by decide) (by decide) ?_
  refine va_putF (D := (dC, dI)) (ci := 7) (v := .ref q_5) (ty := .array .int) (C := R_Md) (T := F_Md) (N := 15) hx hb hw in_Md t_Md t_Md_ok n_Md hown hK hP hD hS 0 rfl rfl 2 (by decide) (hw (Cond.fieldLink "ClauseSearchModel" 17 "ClauseSearchModel" "row" "[I") k_606) (fun _ h9 => h9) rfl hin rfl (by decide +kernel) rfl rfl (Nat.le_of_ble_eq_true rfl) d_Md_init_26 (fun H locs hP hD hS => ?_)
  have hP : va_P (dC, dI) vwCl [(h0, .inr (7, [.ref q_1, .ref q_3, .ref q_5, .null, .null, .int 0, .int 0, .int 0, .int 0, .int 0, .int 0, .null, .int 0, .null, .null])), (q_1, .inl (z_2, 80000, .inl (fun _ => 0))), (q_3, .inl (z_4, 4001, .inl (fun _ => 0))), (q_5, .inl (z_6, 20, .inl (fun _ => 0)))] H := hP
  have hD : va_D A [(h0, .inr (7, [.ref q_1, .ref q_3, .ref q_5, .null, .null, .int 0, .int 0, .int 0, .int 0, .int 0, .int 0, .null, .int 0, .null, .null])), (q_1, .inl (z_2, 80000, .inl (fun _ => 0))), (q_3, .inl (z_4, 4001, .inl (fun _ => 0))), (q_5, .inl (z_6, 20, .inl (fun _ => 0)))] := hD
  refine lv_aload_n hx hb d_Md_init_29 rfl (lv_at hl 0 rfl) ?_
  refine lv_bipush (v := 20) hx hb d_Md_init_30 (by decide) ?_
  refine va_newa (atype := .int) hx hb (hw (Cond.arrayClass .int) k_87) (ty := .int) rfl hK hP hD hS hA (n := 20) (N' := 20) (a0 := (20, .inl (fun _ => 0))) (fun _ => rfl) (by decide) (by decide) (by decide) (Nat.le_of_ble_eq_true rfl) (Nat.le_of_ble_eq_true rfl) d_Md_init_32 (fun q_7 z_8 H hK hP hD hS => ?_)
  have hP : va_P (dC, dI) vwCl [(h0, .inr (7, [.ref q_1, .ref q_3, .ref q_5, .null, .null, .int 0, .int 0, .int 0, .int 0, .int 0, .int 0, .null, .int 0, .null, .null])), (q_1, .inl (z_2, 80000, .inl (fun _ => 0))), (q_3, .inl (z_4, 4001, .inl (fun _ => 0))), (q_5, .inl (z_6, 20, .inl (fun _ => 0))), (q_7, .inl (z_8, 20, .inl (fun _ => 0)))] H := hP
  have hD : va_D A [(h0, .inr (7, [.ref q_1, .ref q_3, .ref q_5, .null, .null, .int 0, .int 0, .int 0, .int 0, .int 0, .int 0, .null, .int 0, .null, .null])), (q_1, .inl (z_2, 80000, .inl (fun _ => 0))), (q_3, .inl (z_4, 4001, .inl (fun _ => 0))), (q_5, .inl (z_6, 20, .inl (fun _ => 0))), (q_7, .inl (z_8, 20, .inl (fun _ => 0)))] := hD
  have hK : va_K (dC, dI) vwCl [(z_2, .int), (z_4, .int), (z_6, .int), (z_8, .int)] s := hK
  refine W.widen (k := 4) (n := 84041) (by decide) (by decide) ?_
  refine va_putF (D := (dC, dI)) (ci := 7) (v := .ref q_7) (ty := .array .int) (C := R_Md) (T := F_Md) (N := 15) hx hb hw in_Md t_Md t_Md_ok n_Md hown hK hP hD hS 0 rfl rfl 3 (by decide) (hw (Cond.fieldLink "ClauseSearchModel" 20 "ClauseSearchModel" "assumed" "[I") k_607) (fun _ h9 => h9) rfl hin rfl (by decide +kernel) rfl rfl (Nat.le_of_ble_eq_true rfl) d_Md_init_34 (fun H locs hP hD hS => ?_)
  have hP : va_P (dC, dI) vwCl [(h0, .inr (7, [.ref q_1, .ref q_3, .ref q_5, .ref q_7, .null, .int 0, .int 0, .int 0, .int 0, .int 0, .int 0, .null, .int 0, .null, .null])), (q_1, .inl (z_2, 80000, .inl (fun _ => 0))), (q_3, .inl (z_4, 4001, .inl (fun _ => 0))), (q_5, .inl (z_6, 20, .inl (fun _ => 0))), (q_7, .inl (z_8, 20, .inl (fun _ => 0)))] H := hP
  have hD : va_D A [(h0, .inr (7, [.ref q_1, .ref q_3, .ref q_5, .ref q_7, .null, .int 0, .int 0, .int 0, .int 0, .int 0, .int 0, .null, .int 0, .null, .null])), (q_1, .inl (z_2, 80000, .inl (fun _ => 0))), (q_3, .inl (z_4, 4001, .inl (fun _ => 0))), (q_5, .inl (z_6, 20, .inl (fun _ => 0))), (q_7, .inl (z_8, 20, .inl (fun _ => 0)))] := hD
  refine lv_aload_n hx hb d_Md_init_37 rfl (lv_at hl 0 rfl) ?_
  refine lv_sipush (v := 401) hx hb d_Md_init_38 (by decide) ?_
  refine va_newa (atype := .int) hx hb (hw (Cond.arrayClass .int) k_87) (ty := .int) rfl hK hP hD hS hA (n := 401) (N' := 401) (a0 := (401, .inl (fun _ => 0))) (fun _ => rfl) (by decide) (by decide) (by decide) (Nat.le_of_ble_eq_true rfl) (Nat.le_of_ble_eq_true rfl) d_Md_init_41 (fun q_9 z_10 H hK hP hD hS => ?_)
  have hP : va_P (dC, dI) vwCl [(h0, .inr (7, [.ref q_1, .ref q_3, .ref q_5, .ref q_7, .null, .int 0, .int 0, .int 0, .int 0, .int 0, .int 0, .null, .int 0, .null, .null])), (q_1, .inl (z_2, 80000, .inl (fun _ => 0))), (q_3, .inl (z_4, 4001, .inl (fun _ => 0))), (q_5, .inl (z_6, 20, .inl (fun _ => 0))), (q_7, .inl (z_8, 20, .inl (fun _ => 0))), (q_9, .inl (z_10, 401, .inl (fun _ => 0)))] H := hP
  have hD : va_D A [(h0, .inr (7, [.ref q_1, .ref q_3, .ref q_5, .ref q_7, .null, .int 0, .int 0, .int 0, .int 0, .int 0, .int 0, .null, .int 0, .null, .null])), (q_1, .inl (z_2, 80000, .inl (fun _ => 0))), (q_3, .inl (z_4, 4001, .inl (fun _ => 0))), (q_5, .inl (z_6, 20, .inl (fun _ => 0))), (q_7, .inl (z_8, 20, .inl (fun _ => 0))), (q_9, .inl (z_10, 401, .inl (fun _ => 0)))] := hD
  have hK : va_K (dC, dI) vwCl [(z_2, .int), (z_4, .int), (z_6, .int), (z_8, .int), (z_10, .int)] s := hK
  refine W.widen (k := 5) (n := 84442) (by decide) (by decide) ?_
  refine va_putF (D := (dC, dI)) (ci := 7) (v := .ref q_9) (ty := .array .int) (C := R_Md) (T := F_Md) (N := 15) hx hb hw in_Md t_Md t_Md_ok n_Md hown hK hP hD hS 0 rfl rfl 4 (by decide) (hw (Cond.fieldLink "ClauseSearchModel" 23 "ClauseSearchModel" "way" "[I") k_608) (fun _ h9 => h9) rfl hin rfl (by decide +kernel) rfl rfl (Nat.le_of_ble_eq_true rfl) d_Md_init_43 (fun H locs hP hD hS => ?_)
  have hP : va_P (dC, dI) vwCl [(h0, .inr (7, [.ref q_1, .ref q_3, .ref q_5, .ref q_7, .ref q_9, .int 0, .int 0, .int 0, .int 0, .int 0, .int 0, .null, .int 0, .null, .null])), (q_1, .inl (z_2, 80000, .inl (fun _ => 0))), (q_3, .inl (z_4, 4001, .inl (fun _ => 0))), (q_5, .inl (z_6, 20, .inl (fun _ => 0))), (q_7, .inl (z_8, 20, .inl (fun _ => 0))), (q_9, .inl (z_10, 401, .inl (fun _ => 0)))] H := hP
  have hD : va_D A [(h0, .inr (7, [.ref q_1, .ref q_3, .ref q_5, .ref q_7, .ref q_9, .int 0, .int 0, .int 0, .int 0, .int 0, .int 0, .null, .int 0, .null, .null])), (q_1, .inl (z_2, 80000, .inl (fun _ => 0))), (q_3, .inl (z_4, 4001, .inl (fun _ => 0))), (q_5, .inl (z_6, 20, .inl (fun _ => 0))), (q_7, .inl (z_8, 20, .inl (fun _ => 0))), (q_9, .inl (z_10, 401, .inl (fun _ => 0)))] := hD
  refine lv_aload_n hx hb d_Md_init_46 rfl (lv_at hl 0 rfl) ?_
  refine lv_sipush (v := 401) hx hb d_Md_init_47 (by decide) ?_
  refine va_newa (atype := .int) hx hb (hw (Cond.arrayClass .int) k_87) (ty := .int) rfl hK hP hD hS hA (n := 401) (N' := 401) (a0 := (401, .inl (fun _ => 0))) (fun _ => rfl) (by decide) (by decide) (by decide) (Nat.le_of_ble_eq_true rfl) (Nat.le_of_ble_eq_true rfl) d_Md_init_50 (fun q_11 z_12 H hK hP hD hS => ?_)
  have hP : va_P (dC, dI) vwCl [(h0, .inr (7, [.ref q_1, .ref q_3, .ref q_5, .ref q_7, .ref q_9, .int 0, .int 0, .int 0, .int 0, .int 0, .int 0, .null, .int 0, .null, .null])), (q_1, .inl (z_2, 80000, .inl (fun _ => 0))), (q_3, .inl (z_4, 4001, .inl (fun _ => 0))), (q_5, .inl (z_6, 20, .inl (fun _ => 0))), (q_7, .inl (z_8, 20, .inl (fun _ => 0))), (q_9, .inl (z_10, 401, .inl (fun _ => 0))), (q_11, .inl (z_12, 401, .inl (fun _ => 0)))] H := hP
  have hD : va_D A [(h0, .inr (7, [.ref q_1, .ref q_3, .ref q_5, .ref q_7, .ref q_9, .int 0, .int 0, .int 0, .int 0, .int 0, .int 0, .null, .int 0, .null, .null])), (q_1, .inl (z_2, 80000, .inl (fun _ => 0))), (q_3, .inl (z_4, 4001, .inl (fun _ => 0))), (q_5, .inl (z_6, 20, .inl (fun _ => 0))), (q_7, .inl (z_8, 20, .inl (fun _ => 0))), (q_9, .inl (z_10, 401, .inl (fun _ => 0))), (q_11, .inl (z_12, 401, .inl (fun _ => 0)))] := hD
  have hK : va_K (dC, dI) vwCl [(z_2, .int), (z_4, .int), (z_6, .int), (z_8, .int), (z_10, .int), (z_12, .int)] s := hK
  refine W.widen (k := 6) (n := 84843) (by decide) (by decide) ?_
  refine va_putF (D := (dC, dI)) (ci := 7) (v := .ref q_11) (ty := .array .int) (C := R_Md) (T := F_Md) (N := 15) hx hb hw in_Md t_Md t_Md_ok n_Md hown hK hP hD hS 0 rfl rfl 11 (by decide) (hw (Cond.fieldLink "ClauseSearchModel" 26 "ClauseSearchModel" "trail" "[I") k_615) (fun _ h9 => h9) rfl hin rfl (by decide +kernel) rfl rfl (Nat.le_of_ble_eq_true rfl) d_Md_init_52 (fun H locs hP hD hS => ?_)
  have hP : va_P (dC, dI) vwCl [(h0, .inr (7, [.ref q_1, .ref q_3, .ref q_5, .ref q_7, .ref q_9, .int 0, .int 0, .int 0, .int 0, .int 0, .int 0, .ref q_11, .int 0, .null, .null])), (q_1, .inl (z_2, 80000, .inl (fun _ => 0))), (q_3, .inl (z_4, 4001, .inl (fun _ => 0))), (q_5, .inl (z_6, 20, .inl (fun _ => 0))), (q_7, .inl (z_8, 20, .inl (fun _ => 0))), (q_9, .inl (z_10, 401, .inl (fun _ => 0))), (q_11, .inl (z_12, 401, .inl (fun _ => 0)))] H := hP
  have hD : va_D A [(h0, .inr (7, [.ref q_1, .ref q_3, .ref q_5, .ref q_7, .ref q_9, .int 0, .int 0, .int 0, .int 0, .int 0, .int 0, .ref q_11, .int 0, .null, .null])), (q_1, .inl (z_2, 80000, .inl (fun _ => 0))), (q_3, .inl (z_4, 4001, .inl (fun _ => 0))), (q_5, .inl (z_6, 20, .inl (fun _ => 0))), (q_7, .inl (z_8, 20, .inl (fun _ => 0))), (q_9, .inl (z_10, 401, .inl (fun _ => 0))), (q_11, .inl (z_12, 401, .inl (fun _ => 0)))] := hD
  refine lv_aload_n hx hb d_Md_init_55 rfl (lv_at hl 0 rfl) ?_
  refine lv_sipush (v := 401) hx hb d_Md_init_56 (by decide) ?_
  refine va_newa (atype := .int) hx hb (hw (Cond.arrayClass .int) k_87) (ty := .int) rfl hK hP hD hS hA (n := 401) (N' := 401) (a0 := (401, .inl (fun _ => 0))) (fun _ => rfl) (by decide) (by decide) (by decide) (Nat.le_of_ble_eq_true rfl) (Nat.le_of_ble_eq_true rfl) d_Md_init_59 (fun q_13 z_14 H hK hP hD hS => ?_)
  have hP : va_P (dC, dI) vwCl [(h0, .inr (7, [.ref q_1, .ref q_3, .ref q_5, .ref q_7, .ref q_9, .int 0, .int 0, .int 0, .int 0, .int 0, .int 0, .ref q_11, .int 0, .null, .null])), (q_1, .inl (z_2, 80000, .inl (fun _ => 0))), (q_3, .inl (z_4, 4001, .inl (fun _ => 0))), (q_5, .inl (z_6, 20, .inl (fun _ => 0))), (q_7, .inl (z_8, 20, .inl (fun _ => 0))), (q_9, .inl (z_10, 401, .inl (fun _ => 0))), (q_11, .inl (z_12, 401, .inl (fun _ => 0))), (q_13, .inl (z_14, 401, .inl (fun _ => 0)))] H := hP
  have hD : va_D A [(h0, .inr (7, [.ref q_1, .ref q_3, .ref q_5, .ref q_7, .ref q_9, .int 0, .int 0, .int 0, .int 0, .int 0, .int 0, .ref q_11, .int 0, .null, .null])), (q_1, .inl (z_2, 80000, .inl (fun _ => 0))), (q_3, .inl (z_4, 4001, .inl (fun _ => 0))), (q_5, .inl (z_6, 20, .inl (fun _ => 0))), (q_7, .inl (z_8, 20, .inl (fun _ => 0))), (q_9, .inl (z_10, 401, .inl (fun _ => 0))), (q_11, .inl (z_12, 401, .inl (fun _ => 0))), (q_13, .inl (z_14, 401, .inl (fun _ => 0)))] := hD
  have hK : va_K (dC, dI) vwCl [(z_2, .int), (z_4, .int), (z_6, .int), (z_8, .int), (z_10, .int), (z_12, .int), (z_14, .int)] s := hK
  refine W.widen (k := 7) (n := 85244) (by decide) (by decide) ?_
  refine va_putF (D := (dC, dI)) (ci := 7) (v := .ref q_13) (ty := .array .int) (C := R_Md) (T := F_Md) (N := 15) hx hb hw in_Md t_Md t_Md_ok n_Md hown hK hP hD hS 0 rfl rfl 13 (by decide) (hw (Cond.fieldLink "ClauseSearchModel" 29 "ClauseSearchModel" "chosen" "[I") k_617) (fun _ h9 => h9) rfl hin rfl (by decide +kernel) rfl rfl (Nat.le_of_ble_eq_true rfl) d_Md_init_61 (fun H locs hP hD hS => ?_)
  have hP : va_P (dC, dI) vwCl [(h0, .inr (7, [.ref q_1, .ref q_3, .ref q_5, .ref q_7, .ref q_9, .int 0, .int 0, .int 0, .int 0, .int 0, .int 0, .ref q_11, .int 0, .ref q_13, .null])), (q_1, .inl (z_2, 80000, .inl (fun _ => 0))), (q_3, .inl (z_4, 4001, .inl (fun _ => 0))), (q_5, .inl (z_6, 20, .inl (fun _ => 0))), (q_7, .inl (z_8, 20, .inl (fun _ => 0))), (q_9, .inl (z_10, 401, .inl (fun _ => 0))), (q_11, .inl (z_12, 401, .inl (fun _ => 0))), (q_13, .inl (z_14, 401, .inl (fun _ => 0)))] H := hP
  have hD : va_D A [(h0, .inr (7, [.ref q_1, .ref q_3, .ref q_5, .ref q_7, .ref q_9, .int 0, .int 0, .int 0, .int 0, .int 0, .int 0, .ref q_11, .int 0, .ref q_13, .null])), (q_1, .inl (z_2, 80000, .inl (fun _ => 0))), (q_3, .inl (z_4, 4001, .inl (fun _ => 0))), (q_5, .inl (z_6, 20, .inl (fun _ => 0))), (q_7, .inl (z_8, 20, .inl (fun _ => 0))), (q_9, .inl (z_10, 401, .inl (fun _ => 0))), (q_11, .inl (z_12, 401, .inl (fun _ => 0))), (q_13, .inl (z_14, 401, .inl (fun _ => 0)))] := hD
  refine lv_aload_n hx hb d_Md_init_64 rfl (lv_at hl 0 rfl) ?_
  refine lv_sipush (v := 401) hx hb d_Md_init_65 (by decide) ?_
  refine va_newa (atype := .int) hx hb (hw (Cond.arrayClass .int) k_87) (ty := .int) rfl hK hP hD hS hA (n := 401) (N' := 401) (a0 := (401, .inl (fun _ => 0))) (fun _ => rfl) (by decide) (by decide) (by decide) (Nat.le_of_ble_eq_true rfl) (Nat.le_of_ble_eq_true rfl) d_Md_init_68 (fun q_15 z_16 H hK hP hD hS => ?_)
  have hP : va_P (dC, dI) vwCl [(h0, .inr (7, [.ref q_1, .ref q_3, .ref q_5, .ref q_7, .ref q_9, .int 0, .int 0, .int 0, .int 0, .int 0, .int 0, .ref q_11, .int 0, .ref q_13, .null])), (q_1, .inl (z_2, 80000, .inl (fun _ => 0))), (q_3, .inl (z_4, 4001, .inl (fun _ => 0))), (q_5, .inl (z_6, 20, .inl (fun _ => 0))), (q_7, .inl (z_8, 20, .inl (fun _ => 0))), (q_9, .inl (z_10, 401, .inl (fun _ => 0))), (q_11, .inl (z_12, 401, .inl (fun _ => 0))), (q_13, .inl (z_14, 401, .inl (fun _ => 0))), (q_15, .inl (z_16, 401, .inl (fun _ => 0)))] H := hP
  have hD : va_D A [(h0, .inr (7, [.ref q_1, .ref q_3, .ref q_5, .ref q_7, .ref q_9, .int 0, .int 0, .int 0, .int 0, .int 0, .int 0, .ref q_11, .int 0, .ref q_13, .null])), (q_1, .inl (z_2, 80000, .inl (fun _ => 0))), (q_3, .inl (z_4, 4001, .inl (fun _ => 0))), (q_5, .inl (z_6, 20, .inl (fun _ => 0))), (q_7, .inl (z_8, 20, .inl (fun _ => 0))), (q_9, .inl (z_10, 401, .inl (fun _ => 0))), (q_11, .inl (z_12, 401, .inl (fun _ => 0))), (q_13, .inl (z_14, 401, .inl (fun _ => 0))), (q_15, .inl (z_16, 401, .inl (fun _ => 0)))] := hD
  have hK : va_K (dC, dI) vwCl [(z_2, .int), (z_4, .int), (z_6, .int), (z_8, .int), (z_10, .int), (z_12, .int), (z_14, .int), (z_16, .int)] s := hK
  refine W.widen (k := 8) (n := 85645) (by decide) (by decide) ?_
  refine va_putF (D := (dC, dI)) (ci := 7) (v := .ref q_15) (ty := .array .int) (C := R_Md) (T := F_Md) (N := 15) hx hb hw in_Md t_Md t_Md_ok n_Md hown hK hP hD hS 0 rfl rfl 14 (by decide) (hw (Cond.fieldLink "ClauseSearchModel" 32 "ClauseSearchModel" "mark" "[I") k_618) (fun _ h9 => h9) rfl hin rfl (by decide +kernel) rfl rfl (Nat.le_of_ble_eq_true rfl) d_Md_init_70 (fun H locs hP hD hS => ?_)
  have hP : va_P (dC, dI) vwCl [(h0, .inr (7, [.ref q_1, .ref q_3, .ref q_5, .ref q_7, .ref q_9, .int 0, .int 0, .int 0, .int 0, .int 0, .int 0, .ref q_11, .int 0, .ref q_13, .ref q_15])), (q_1, .inl (z_2, 80000, .inl (fun _ => 0))), (q_3, .inl (z_4, 4001, .inl (fun _ => 0))), (q_5, .inl (z_6, 20, .inl (fun _ => 0))), (q_7, .inl (z_8, 20, .inl (fun _ => 0))), (q_9, .inl (z_10, 401, .inl (fun _ => 0))), (q_11, .inl (z_12, 401, .inl (fun _ => 0))), (q_13, .inl (z_14, 401, .inl (fun _ => 0))), (q_15, .inl (z_16, 401, .inl (fun _ => 0)))] H := hP
  have hD : va_D A [(h0, .inr (7, [.ref q_1, .ref q_3, .ref q_5, .ref q_7, .ref q_9, .int 0, .int 0, .int 0, .int 0, .int 0, .int 0, .ref q_11, .int 0, .ref q_13, .ref q_15])), (q_1, .inl (z_2, 80000, .inl (fun _ => 0))), (q_3, .inl (z_4, 4001, .inl (fun _ => 0))), (q_5, .inl (z_6, 20, .inl (fun _ => 0))), (q_7, .inl (z_8, 20, .inl (fun _ => 0))), (q_9, .inl (z_10, 401, .inl (fun _ => 0))), (q_11, .inl (z_12, 401, .inl (fun _ => 0))), (q_13, .inl (z_14, 401, .inl (fun _ => 0))), (q_15, .inl (z_16, 401, .inl (fun _ => 0)))] := hD
  refine W.widen (k := 8) (n := 85645) (by decide) (by decide) ?_
  exact W.vret hx hb hr (fun t ht hW => ⟨⟨(), rfl, trivial, q_1, z_2, q_3, z_4, q_5, z_6, q_7, z_8, q_9, z_10, q_11, z_12, q_13, z_14, q_15, z_16, by rw [ht]; exact hP, va_K.moved hW.alike hK, hD⟩, hS.F ht⟩) hS.2.2 d_Md_init_73
end
section
section TwCalls
variable {p : Program} {l : Launch} {e : Env} {R : Room} {s : State} {m : MethodId} {args : Array Value} {below : List Frame} {meth : Method} {c : Code} {H : Heap} {locs : List Loc} {cells slots : Nat} {Q : State → Prop}
/-- the call of a method that throws X, caught by the first row of the caller's table -/
theorem tw_call {y : MethodName} {bytes cc : ByteArray} {maxL nL mc ms n index pc : Nat} {ret : Option FieldType} {ws : List Cond} {rm : Room} {Pc : Array Value → State → Prop} {X : String} {Ts : List Cond} {own C : String} {b : Addr} {As rest st0 : List Value} {ls : Array Slot}
    (S : CallFix p m c cc nL s args Ts own) (hM : tw_Met l y ws rm Pc (tw_Q X) mc ms) (cw : CallW R s args own C index y bytes maxL ret ws rm mc ms n) (hp : PreV s H C b Pc As)
    (hn : As.length = n) (hsize : ls.size = nL) (hstack : st0 = As.reverse ++ .ref b :: rest) (hW : 2 * (F0 m pc ls st0).monitorRoom + (rest.map fun v => v.category).sum ≤ 8) (hdg : decode cc pc = .ok (.invokevirtual index, 3)) (hf : cells + mc ≤ R.cells ∧ slots + ms ≤ R.slots)
    {x : ExceptionTableEntry} {more : List ExceptionTableEntry} (htab : c.exceptionTable.toList = x :: more) (hcov : covers x pc = true) (h0 : x.catchType ≠ 0) (hlink : (Cond.classLink own x.catchType X).before args s = true) (hcast : (Cond.castable X X).before args s = true)
    (kk : ∀ (a : Nat) (H1 : Heap), H.size ≤ H1.size → (∀ q : Nat, q < H.size → H1[q]? = H[q]?) → W p l e R s m args below meth c H1 locs (cells + mc) (slots + ms) Q (F0 m x.handlerPc ls [.ref a])) :
    W p l e R s m args below meth c H locs cells slots Q (F0 m pc ls st0) := by
  intro T hT X0
  have hown := S.2.2.2.1
  obtain ⟨a, st₀, t, T', e0, hWs, X1, et, ev, hle, hkeep, ⟨hge, ce, hce, hst, hcl⟩, st⟩ := tw_runV (g := F0 m pc ls st0) S hM cw hp rfl hn hsize hstack hW hdg hf hT X0
  have hclS : s.vm.findClass X = some ce.cls := by rw [← hWs.alike.findClass]; exact hcl
  obtain ⟨c3, cT, hc3, hcT, hasg⟩ := Cond.castable_spec hcast
  cases hc3.symm.trans hclS
  obtain ⟨vm', X2, st2⟩ := tw_catch1 X1 (a := a) (g := { F0 m pc ls st0 with stack := rest }) rfl hown htab hcov h0 hlink hcT (by rw [← et]; exact hce) hst hasg
  obtain ⟨t2, a1, b1⟩ := kk a T'.heap hle hkeep (T'.setVm vm') rfl X2
  exact ⟨t2, st.trans (st2 _ a1), b1⟩
/-- the static call of a method with handlers -/
theorem th_runS {y : MethodName} {bytes cc : ByteArray} {maxL nL mc ms n index : Nat} {ret : Option FieldType} {hh : List (Nat × Nat × Nat × Nat)} {rm : Room} {Pc : Array Value → State → Prop} {Qc : Array Value → State → Outcome → State → Prop} {free : Addr → Prop} {own : String} {As rest : List Value} {g : JFrame}
    (S : CallFix p m c cc nL s args bg_W own) (hM : Met l y (wh y bytes maxL ret hh) rm Pc Qc mc ms free) (hc : Cond.codeWith y bytes maxL ret hh ∈ bg_W) (hi : Cond.initialized y.cls ∈ bg_W) (hl : Cond.methodLink own index y ∈ bg_W) (hst : Cond.static y ∈ bg_W) (hrc : rm.cells = mc) (hrs : rm.slots = ms)
    (hd : y.cls ≠ "java/lang/invoke/MethodHandle" ∧ y.cls ≠ "java/lang/invoke/VarHandle" ∧ (parseMethodDescriptor y.desc).map (fun d => d.parameters.length) = some n) (hR : rm.frames + 1 ≤ R.frames ∧ 8 + (maxL + 11) + rm.locals ≤ R.locals) (hp : PreS s H Pc As)
    (hg : g.method = m) (hn : As.length = n) (hsize : g.locals.size = nL) (hstack : g.stack = As.reverse ++ rest) (hW : 2 * g.monitorRoom + (rest.map fun v => v.category).sum ≤ 8) (hdg : decode cc g.pc = .ok (.invokestatic index, 3)) (hf : cells + mc ≤ R.cells ∧ slots + ms ≤ R.slots) :
    va_Run p l e R s m args below meth c H locs cells slots mc ms g rest (Qc As.toArray) (free) := by
  obtain ⟨hx, hb, hml, ho, ht⟩ := S
  have hini := ht _ hi
  have hK : Back l R p e below s args y 3 8 (PreOf R mc ms Pc) (PostOf Qc mc ms free) := va_backW (hh := hh) (bytes := bytes) (maxL := maxL) (ret := ret) hM hp.1 hrc hrs hR.1 hR.2 (bg_pays ht hc) List.mem_cons_self (fun a' U hW => word_at hW (Or.inl (by first | rfl | simp [Cond.onTables, Cond.keeps, Cond.steady])) hini)
  obtain ⟨mk, methM, cM, hnamed, hmethM, -, -, -, -, -, -, hsigM⟩ := Cond.codeWith_spec (ht _ hc)
  intro T hT X
  have hlen : ∀ sig, parseMethodDescriptor y.desc = some sig → As.length = sig.parameters.length := fun sig h => by
    have h2 := hd.2.2
    rw [h] at h2
    exact hn.trans (Option.some.inj h2).symm
  obtain ⟨v, vm₁, ⟨U', l2, c2, s2⟩, hW₁, X', ⟨g', mk', t, L, e1, e2, hq, h1, hL, h2, h3⟩, st⟩ := X.staticBack hx ho (ht _ hl) (ht _ hst) hini hnamed hmethM hsigM ⟨hd.1, hd.2.1⟩ hK (g := g) hg (hsize.trans hml.symm) (Steps.refl _) (argsL := As) (rest := rest) hlen hstack hW (by rw [hb]; exact hdg)
    (fun vm₁ hW₁ => ⟨hf.1, hf.2, hp.2 (T.setVm vm₁) hT hW₁⟩)
  dsimp only [Pt.U, Pt.locs, Pt.cells, Pt.slots] at X' e1 e2 h1 h2 h3 st
  subst h1; subst h2; subst h3
  exact ⟨v, (T.setVm vm₁).calling g' mk' As.toArray, t, U', L, hT, X', hL, e1, e2, hq, fun target h => st.trans h⟩
/-- the table of a body with handlers -/
theorem th_table {l : Launch} {p : Program} {y : MethodName} {S : Spec} {cc : ByteArray} {maxL : Nat} {ret : Option FieldType} {e : Env} {s s₁ : State} {m : MethodId} {args : Array Value} {below : List Frame} {meth : Method} {c : Code} {hh : List (Nat × Nat × Nat × Nat)}
    (B : BodyLoose p l y S cc maxL ret e s m args below meth c s₁) (h : (Cond.codeWith y cc maxL ret hh).before args s = true) : c.exceptionTable.toList = tableOf hh := by
  obtain ⟨m9, meth9, c9, hn9, h1, h2, -, -, h6, -⟩ := Cond.codeWith_spec h
  cases hn9.symm.trans B.named
  cases h1.symm.trans B.method
  cases h2.symm.trans (Stand.of_body B).code
  rw [← h6, table_eq]
end TwCalls
end
section
abbrev y_Cs_variables : MethodName := ⟨"ClauseSearch", "variables", "(I)I"⟩
abbrev y_Cs_give : MethodName := ⟨"ClauseSearch", "give", "(I)I"⟩
abbrev y_Cs_clause : MethodName := ⟨"ClauseSearch", "clause", "()I"⟩
abbrev y_Cs_value : MethodName := ⟨"ClauseSearch", "value", "(I)Z"⟩
abbrev y_Cs_count : MethodName := ⟨"ClauseSearch", "count", "(I)I"⟩
theorem k_41 : (Cond.initialized "java/lang/IllegalArgumentException") ∈ bg_W := bg_in 41 (by decide +kernel) (by decide +kernel)
theorem k_43 : (Cond.initialized "java/lang/IllegalStateException") ∈ bg_W := bg_in 43 (by decide +kernel) (by decide +kernel)
theorem k_259 : (Cond.fieldLink "ClauseSearch" 58 "ClauseSearch" "rowSize" "I") ∈ bg_W := bg_in 259 (by decide +kernel) (by decide +kernel)
theorem k_260 : (Cond.fieldLink "ClauseSearch" 43 "ClauseSearch" "variableCount" "I") ∈ bg_W := bg_in 260 (by decide +kernel) (by decide +kernel)
theorem k_261 : (Cond.fieldLink "ClauseSearch" 52 "ClauseSearch" "wayStands" "Z") ∈ bg_W := bg_in 261 (by decide +kernel) (by decide +kernel)
theorem k_453 : (Cond.code ⟨"ClauseSearch", "variables", "(I)I"⟩ prog_1_method_2_code 2 (some .int)) ∈ bg_W := bg_in 453 (by decide +kernel) (by decide +kernel)
theorem k_454 : (Cond.classLink "ClauseSearch" 36 "java/lang/IllegalArgumentException") ∈ bg_W := bg_in 454 (by decide +kernel) (by decide +kernel)
theorem k_455 : (Cond.instantiable "java/lang/IllegalArgumentException" 6) ∈ bg_W := bg_in 455 (by decide +kernel) (by decide +kernel)
theorem k_495 : (Cond.stringRef "ClauseSearch" 38 "1 to 400 variables come at once") ∈ bg_W := bg_in 495 (by decide +kernel) (by decide +kernel)
theorem k_543 : (Cond.code ⟨"ClauseSearch", "give", "(I)I"⟩ prog_1_method_3_code 2 (some .int)) ∈ bg_W := bg_in 543 (by decide +kernel) (by decide +kernel)
theorem k_544 : (Cond.stringRef "ClauseSearch" 56 "no literal of a variable that there is") ∈ bg_W := bg_in 544 (by decide +kernel) (by decide +kernel)
theorem k_553 : (Cond.code ⟨"ClauseSearch", "clause", "()I"⟩ prog_1_method_4_code 1 (some .int)) ∈ bg_W := bg_in 553 (by decide +kernel) (by decide +kernel)
theorem k_554 : (Cond.classLink "ClauseSearch" 63 "java/lang/IllegalStateException") ∈ bg_W := bg_in 554 (by decide +kernel) (by decide +kernel)
theorem k_555 : (Cond.instantiable "java/lang/IllegalStateException" 6) ∈ bg_W := bg_in 555 (by decide +kernel) (by decide +kernel)
theorem k_563 : (Cond.stringRef "ClauseSearch" 65 "the row is empty") ∈ bg_W := bg_in 563 (by decide +kernel) (by decide +kernel)
theorem k_586 : (Cond.code ⟨"ClauseSearch", "value", "(I)Z"⟩ prog_1_method_6_code 2 (some .boolean)) ∈ bg_W := bg_in 586 (by decide +kernel) (by decide +kernel)
theorem k_587 : (Cond.stringRef "ClauseSearch" 89 "no variable has this number") ∈ bg_W := bg_in 587 (by decide +kernel) (by decide +kernel)
theorem k_595 : (Cond.code ⟨"ClauseSearch", "count", "(I)I"⟩ prog_1_method_7_code 2 (some .int)) ∈ bg_W := bg_in 595 (by decide +kernel) (by decide +kernel)
theorem k_596 : (Cond.stringRef "ClauseSearch" 99 "what is counted is 0 to 5") ∈ bg_W := bg_in 596 (by decide +kernel) (by decide +kernel)
theorem tw_a40 : (Bundle.ownAtoms "ClauseSearch" 40 "java/lang/IllegalArgumentException" tw_up).all (fun w => tw_hw w || decide (w ∈ bg_W)) = true := by decide +kernel
theorem tw_a67 : (Bundle.ownAtoms "ClauseSearch" 67 "java/lang/IllegalStateException" tw_up).all (fun w => tw_hw w || decide (w ∈ bg_W)) = true := by decide +kernel
theorem d_Cs_variables_0 : decode prog_1_method_2_code 0 = .ok (.iload_n 1, 1) := by decide +kernel
theorem d_Cs_variables_1 : decode prog_1_method_2_code 1 = .ok (.iconst 1, 1) := by decide +kernel
theorem d_Cs_variables_2 : decode prog_1_method_2_code 2 = .ok (.if_icmp .lt 10, 3) := by decide +kernel
theorem d_Cs_variables_12 : decode prog_1_method_2_code 12 = .ok (.new 36, 3) := by decide +kernel
theorem d_Cs_variables_15 : decode prog_1_method_2_code 15 = .ok (.dup, 1) := by decide +kernel
theorem d_Cs_variables_16 : decode prog_1_method_2_code 16 = .ok (.ldc 38, 2) := by decide +kernel
theorem d_Cs_variables_18 : decode prog_1_method_2_code 18 = .ok (.invokespecial 40, 3) := by decide +kernel
theorem d_Cs_variables_21 : decode prog_1_method_2_code 21 = .ok (.athrow, 1) := by decide +kernel
theorem d_Cs_variables_5 : decode prog_1_method_2_code 5 = .ok (.iload_n 1, 1) := by decide +kernel
theorem d_Cs_variables_6 : decode prog_1_method_2_code 6 = .ok (.sipush 400, 3) := by decide +kernel
theorem d_Cs_variables_9 : decode prog_1_method_2_code 9 = .ok (.if_icmp .le 13, 3) := by decide +kernel
theorem d_Cs_variables_22 : decode prog_1_method_2_code 22 = .ok (.aload_n 0, 1) := by decide +kernel
theorem d_Cs_variables_23 : decode prog_1_method_2_code 23 = .ok (.getfield 43, 3) := by decide +kernel
theorem d_Cs_variables_26 : decode prog_1_method_2_code 26 = .ok (.iload_n 1, 1) := by decide +kernel
theorem d_Cs_variables_27 : decode prog_1_method_2_code 27 = .ok (.iadd, 1) := by decide +kernel
theorem d_Cs_variables_28 : decode prog_1_method_2_code 28 = .ok (.sipush 400, 3) := by decide +kernel
theorem d_Cs_variables_31 : decode prog_1_method_2_code 31 = .ok (.if_icmp .le 13, 3) := by decide +kernel
theorem d_Cs_variables_44 : decode prog_1_method_2_code 44 = .ok (.aload_n 0, 1) := by decide +kernel
theorem d_Cs_variables_45 : decode prog_1_method_2_code 45 = .ok (.dup, 1) := by decide +kernel
theorem d_Cs_variables_46 : decode prog_1_method_2_code 46 = .ok (.getfield 43, 3) := by decide +kernel
theorem d_Cs_variables_49 : decode prog_1_method_2_code 49 = .ok (.iload_n 1, 1) := by decide +kernel
theorem d_Cs_variables_50 : decode prog_1_method_2_code 50 = .ok (.iadd, 1) := by decide +kernel
theorem d_Cs_variables_51 : decode prog_1_method_2_code 51 = .ok (.putfield 43, 3) := by decide +kernel
theorem d_Cs_variables_54 : decode prog_1_method_2_code 54 = .ok (.aload_n 0, 1) := by decide +kernel
theorem d_Cs_variables_55 : decode prog_1_method_2_code 55 = .ok (.iconst 0, 1) := by decide +kernel
theorem d_Cs_variables_56 : decode prog_1_method_2_code 56 = .ok (.putfield 52, 3) := by decide +kernel
theorem d_Cs_variables_59 : decode prog_1_method_2_code 59 = .ok (.aload_n 0, 1) := by decide +kernel
theorem d_Cs_variables_60 : decode prog_1_method_2_code 60 = .ok (.getfield 43, 3) := by decide +kernel
theorem d_Cs_variables_63 : decode prog_1_method_2_code 63 = .ok (.ireturn, 1) := by decide +kernel
theorem d_Cs_give_0 : decode prog_1_method_3_code 0 = .ok (.iload_n 1, 1) := by decide +kernel
theorem d_Cs_give_1 : decode prog_1_method_3_code 1 = .ok (.ifCond .eq 20, 3) := by decide +kernel
theorem d_Cs_give_21 : decode prog_1_method_3_code 21 = .ok (.new 36, 3) := by decide +kernel
theorem d_Cs_give_24 : decode prog_1_method_3_code 24 = .ok (.dup, 1) := by decide +kernel
theorem d_Cs_give_25 : decode prog_1_method_3_code 25 = .ok (.ldc 56, 2) := by decide +kernel
theorem d_Cs_give_27 : decode prog_1_method_3_code 27 = .ok (.invokespecial 40, 3) := by decide +kernel
theorem d_Cs_give_30 : decode prog_1_method_3_code 30 = .ok (.athrow, 1) := by decide +kernel
theorem d_Cs_give_4 : decode prog_1_method_3_code 4 = .ok (.iload_n 1, 1) := by decide +kernel
theorem d_Cs_give_5 : decode prog_1_method_3_code 5 = .ok (.aload_n 0, 1) := by decide +kernel
theorem d_Cs_give_6 : decode prog_1_method_3_code 6 = .ok (.getfield 43, 3) := by decide +kernel
theorem d_Cs_give_9 : decode prog_1_method_3_code 9 = .ok (.if_icmp .gt 12, 3) := by decide +kernel
theorem d_Cs_give_12 : decode prog_1_method_3_code 12 = .ok (.iload_n 1, 1) := by decide +kernel
theorem d_Cs_give_13 : decode prog_1_method_3_code 13 = .ok (.aload_n 0, 1) := by decide +kernel
theorem d_Cs_give_14 : decode prog_1_method_3_code 14 = .ok (.getfield 43, 3) := by decide +kernel
theorem d_Cs_give_17 : decode prog_1_method_3_code 17 = .ok (.ineg, 1) := by decide +kernel
theorem d_Cs_give_18 : decode prog_1_method_3_code 18 = .ok (.if_icmp .ge 13, 3) := by decide +kernel
theorem d_Cs_clause_0 : decode prog_1_method_4_code 0 = .ok (.aload_n 0, 1) := by decide +kernel
theorem d_Cs_clause_1 : decode prog_1_method_4_code 1 = .ok (.getfield 58, 3) := by decide +kernel
theorem d_Cs_clause_4 : decode prog_1_method_4_code 4 = .ok (.ifCond .ne 13, 3) := by decide +kernel
theorem d_Cs_clause_7 : decode prog_1_method_4_code 7 = .ok (.new 63, 3) := by decide +kernel
theorem d_Cs_clause_10 : decode prog_1_method_4_code 10 = .ok (.dup, 1) := by decide +kernel
theorem d_Cs_clause_11 : decode prog_1_method_4_code 11 = .ok (.ldc 65, 2) := by decide +kernel
theorem d_Cs_clause_13 : decode prog_1_method_4_code 13 = .ok (.invokespecial 67, 3) := by decide +kernel
theorem d_Cs_clause_16 : decode prog_1_method_4_code 16 = .ok (.athrow, 1) := by decide +kernel
theorem d_Cs_value_0 : decode prog_1_method_6_code 0 = .ok (.iload_n 1, 1) := by decide +kernel
theorem d_Cs_value_1 : decode prog_1_method_6_code 1 = .ok (.iconst 1, 1) := by decide +kernel
theorem d_Cs_value_2 : decode prog_1_method_6_code 2 = .ok (.if_icmp .lt 11, 3) := by decide +kernel
theorem d_Cs_value_13 : decode prog_1_method_6_code 13 = .ok (.new 36, 3) := by decide +kernel
theorem d_Cs_value_16 : decode prog_1_method_6_code 16 = .ok (.dup, 1) := by decide +kernel
theorem d_Cs_value_17 : decode prog_1_method_6_code 17 = .ok (.ldc 89, 2) := by decide +kernel
theorem d_Cs_value_19 : decode prog_1_method_6_code 19 = .ok (.invokespecial 40, 3) := by decide +kernel
theorem d_Cs_value_22 : decode prog_1_method_6_code 22 = .ok (.athrow, 1) := by decide +kernel
theorem d_Cs_value_5 : decode prog_1_method_6_code 5 = .ok (.iload_n 1, 1) := by decide +kernel
theorem d_Cs_value_6 : decode prog_1_method_6_code 6 = .ok (.aload_n 0, 1) := by decide +kernel
theorem d_Cs_value_7 : decode prog_1_method_6_code 7 = .ok (.getfield 43, 3) := by decide +kernel
theorem d_Cs_value_10 : decode prog_1_method_6_code 10 = .ok (.if_icmp .le 13, 3) := by decide +kernel
theorem d_Cs_count_0 : decode prog_1_method_7_code 0 = .ok (.iload_n 1, 1) := by decide +kernel
theorem d_Cs_count_1 : decode prog_1_method_7_code 1 = .ok (.tableswitch 83 0 5 #[39, 44, 52, 57, 70, 78], 39) := by decide +kernel
theorem d_Cs_count_84 : decode prog_1_method_7_code 84 = .ok (.new 36, 3) := by decide +kernel
theorem d_Cs_count_87 : decode prog_1_method_7_code 87 = .ok (.dup, 1) := by decide +kernel
theorem d_Cs_count_88 : decode prog_1_method_7_code 88 = .ok (.ldc 99, 2) := by decide +kernel
theorem d_Cs_count_90 : decode prog_1_method_7_code 90 = .ok (.invokespecial 40, 3) := by decide +kernel
theorem d_Cs_count_93 : decode prog_1_method_7_code 93 = .ok (.athrow, 1) := by decide +kernel
set_option maxHeartbeats 4000000 in
set_option maxRecDepth 100000 in
/-- variables(n) refuses n -/
theorem x_Cs_variables_1 (l : Launch) (hfl : l.flags = pinnedFlags ++ [noTraceFlag]) (dC : Nat → ClassId) (dI : Nat → Nat → Nat) (h0 : Nat) (b0 : Nat) (b1 : Nat) (b2 : Nat) (b3 : Nat) (sz lim : Nat) (rs : Int32) (vc : Int32) (wv : Int32) (bw : Int32) (p0 : Int32) (h : p0 < 1 ∨ 400 < p0) : tw_Met l y_Cs_variables (wq y_Cs_variables prog_1_method_2_code 2 (some .int)) ({ frames := 6, cells := 1, slots := 6, locals := 90 }) (va_Pc [.ref h0, .int p0] (fun U => U.heap.size = sz ∧ va_P (dC, dI) vwCl [(h0, .inr (6, [.ref b0, .ref b1, .ref b2, .ref b3, .int rs, .int vc, .int wv, .int bw]))] U.heap ∧ va_K (dC, dI) vwCl [] U ∧ va_D (fun _ => True) [(h0, .inr (6, [.ref b0, .ref b1, .ref b2, .ref b3, .int rs, .int vc, .int wv, .int bw]))] ∧ tw_Z U U.heap lim)) (tw_Q "java/lang/IllegalArgumentException") 1 6 := by
  refine tw_ofW (cc := prog_1_method_2_code) (maxL := 2) (ret := (some .int)) (by decide) rfl ?_
  intro p e s m args below meth c s₁ B hml hv
  obtain ⟨rfl, hsz, hP, hK, hD0, hz⟩ := hv
  have hx := B.exec
  have hb := B.bytes
  have hr := B.returns
  have hw : ∀ w ∈ bg_W, w.before #[Value.ref h0, Value.int p0] s = true := fun w h => atoms_spec (ws := (wq y_Cs_variables prog_1_method_2_code 2 (some .int))) B.pre w (List.mem_cons_of_mem _ h)
  have hown : s.vm.findClass R_Cs = some m.cls := findClass_of_methodNamed B.named
  have hlocks := B.notSynchronized
  subst hsz
  have hD := hD0.self (sz := s.heap.size)
  generalize hAe : va_A [(h0, .inr (6, [.ref b0, .ref b1, .ref b2, .ref b3, .int rs, .int vc, .int wv, .int bw]))] s.heap.size = A at hD ⊢
  have hA : ∀ q : Nat, s.heap.size ≤ q → A q := fun q h => by rw [← hAe]; exact Or.inr h
  have hS : va_S A s.heap s.heap [] := va_S.rf
  have hP : va_P (dC, dI) vwCl [(h0, .inr (6, [.ref b0, .ref b1, .ref b2, .ref b3, .int rs, .int vc, .int wv, .int bw]))] s.heap := hP
  have hl := lv_entry ([.ref h0, .int p0]) (n := 2) (Nat.le_of_ble_eq_true rfl)
  rw [lg_entry_eq]
  generalize (lg_sl ([.ref h0, .int p0]) ++ List.replicate (2 - (lg_sl ([.ref h0, .int p0])).length) Slot.unset).toArray = ls at hl ⊢
  have hl : lv_has ls 2 [(0, .ref h0), (1, .int p0)] := hl
  obtain ⟨H, hH⟩ : ∃ H : Heap, H = s.heap := ⟨_, rfl⟩
  rw [← hH] at hP
  have hS : va_S A s.heap H [] := by rw [hH]; exact va_S.rf
  show W p l e _ s m _ below meth c s.heap [] 0 0 _ _
  rw [← hH]
  refine lv_iload_n hx hb d_Cs_variables_0 rfl (lv_at hl 1 rfl) ?_
  refine lv_iconst (v := 1) hx hb d_Cs_variables_1 (by decide) ?_
  refine lv_icmp_lt (tgt := 12) hx hb d_Cs_variables_2 (by decide) (fun c_2 => ?_) (fun c_2 => ?_)
  · refine W.newc hx hb hown (hw (Cond.classLink "ClauseSearch" 36 "java/lang/IllegalArgumentException") k_454) (hw (Cond.instantiable "java/lang/IllegalArgumentException" 6) k_455) (hw (Cond.initialized "java/lang/IllegalArgumentException") k_41) rfl d_Cs_variables_12 (Nat.le_of_ble_eq_true rfl) (Nat.le_of_ble_eq_true rfl) (fun cX kX hfX hkX hoX hnX => ?_)
    refine W.eq (g2 := F0 m 15 ls [.ref H.size]) rfl ?_
    refine W.widen (k := 1) (n := 6) (by decide) (by decide) ?_
    refine lv_dup hx hb d_Cs_variables_15 rfl ?_
    obtain ⟨k9, cf9, i9, q9, -, -, -, -, -, hev9⟩ := Cond.stringRef_spec hown (hw (Cond.stringRef "ClauseSearch" 38 "1 to 400 variables come at once") k_495)
    refine va_ldcS (q := q9) hx hb hown (vk_R.of (A := #[Value.ref h0, Value.int p0]) (hw (Cond.stringRef "ClauseSearch" 38 "1 to 400 variables come at once") k_495) hev9) d_Cs_variables_16 ?_
    exact tw_throw hx hb hfl hown (by decide) (by decide) (tw_hat hw hz tw_a40) hfX hkX (by simp [freshCell]) (by rw [hH]; exact Nat.le_refl _) (by rw [hml]; exact hl.1) d_Cs_variables_18 d_Cs_variables_21 (B.noHandlers (hw (Cond.code ⟨"ClauseSearch", "variables", "(I)I"⟩ prog_1_method_2_code 2 (some .int)) k_453)) (Nat.le_of_ble_eq_true rfl) (Nat.le_of_ble_eq_true rfl) hlocks
  · refine lv_iload_n hx hb d_Cs_variables_5 rfl (lv_at hl 1 rfl) ?_
    refine lv_sipush (v := 400) hx hb d_Cs_variables_6 (by decide) ?_
    refine lv_icmp_le (tgt := 22) hx hb d_Cs_variables_9 (by decide) (fun c_9 => absurd c_9 (by rcases h with h | h; exact absurd h c_2; exact Int32.not_le.mpr h)) (fun c_9 => ?_)
    refine W.newc hx hb hown (hw (Cond.classLink "ClauseSearch" 36 "java/lang/IllegalArgumentException") k_454) (hw (Cond.instantiable "java/lang/IllegalArgumentException" 6) k_455) (hw (Cond.initialized "java/lang/IllegalArgumentException") k_41) rfl d_Cs_variables_12 (Nat.le_of_ble_eq_true rfl) (Nat.le_of_ble_eq_true rfl) (fun cX kX hfX hkX hoX hnX => ?_)
    refine W.eq (g2 := F0 m 15 ls [.ref H.size]) rfl ?_
    refine W.widen (k := 1) (n := 6) (by decide) (by decide) ?_
    refine lv_dup hx hb d_Cs_variables_15 rfl ?_
    obtain ⟨k9, cf9, i9, q9, -, -, -, -, -, hev9⟩ := Cond.stringRef_spec hown (hw (Cond.stringRef "ClauseSearch" 38 "1 to 400 variables come at once") k_495)
    refine va_ldcS (q := q9) hx hb hown (vk_R.of (A := #[Value.ref h0, Value.int p0]) (hw (Cond.stringRef "ClauseSearch" 38 "1 to 400 variables come at once") k_495) hev9) d_Cs_variables_16 ?_
    exact tw_throw hx hb hfl hown (by decide) (by decide) (tw_hat hw hz tw_a40) hfX hkX (by simp [freshCell]) (by rw [hH]; exact Nat.le_refl _) (by rw [hml]; exact hl.1) d_Cs_variables_18 d_Cs_variables_21 (B.noHandlers (hw (Cond.code ⟨"ClauseSearch", "variables", "(I)I"⟩ prog_1_method_2_code 2 (some .int)) k_453)) (Nat.le_of_ble_eq_true rfl) (Nat.le_of_ble_eq_true rfl) hlocks

set_option maxHeartbeats 4000000 in
set_option maxRecDepth 100000 in
/-- variables(n) -/
theorem c_Cs_variables (l : Launch) (dC : Nat → ClassId) (dI : Nat → Nat → Nat) (h0 : Nat) (b0 : Nat) (b1 : Nat) (b2 : Nat) (b3 : Nat) (sz : Nat) (rs : Int32) (vc : Int32) (wv : Int32) (bw : Int32) (p0 : Int32) (h1 : ¬ p0 < 1) (h2 : p0 ≤ 400) (h3 : vc + p0 ≤ 400) : Met l y_Cs_variables (wq y_Cs_variables prog_1_method_2_code 2 (some .int)) ({ frames := 0, cells := 0, slots := 0, locals := 0 }) (va_Pc [.ref h0, .int p0] (fun U => U.heap.size = sz ∧ va_P (dC, dI) vwCl [(h0, .inr (6, [.ref b0, .ref b1, .ref b2, .ref b3, .int rs, .int vc, .int wv, .int bw]))] U.heap ∧ va_K (dC, dI) vwCl [] U ∧ va_D (fun _ => True) [(h0, .inr (6, [.ref b0, .ref b1, .ref b2, .ref b3, .int rs, .int vc, .int wv, .int bw]))])) (va_Qi (fun (r : Int32) (_ : Unit) => r = vc + p0) (fun (_ : Unit) t => va_P (dC, dI) vwCl [(h0, .inr (6, [.ref b0, .ref b1, .ref b2, .ref b3, .int rs, .int (vc + p0), .int 0, .int bw]))] t.heap ∧ va_K (dC, dI) vwCl [] t ∧ va_D (va_A [(h0, .inr (6, [.ref b0, .ref b1, .ref b2, .ref b3, .int rs, .int vc, .int wv, .int bw]))] sz) [(h0, .inr (6, [.ref b0, .ref b1, .ref b2, .ref b3, .int rs, .int (vc + p0), .int 0, .int bw]))]) (va_A [(h0, .inr (6, [.ref b0, .ref b1, .ref b2, .ref b3, .int rs, .int vc, .int wv, .int bw]))] sz)) 0 0 (va_A [(h0, .inr (6, [.ref b0, .ref b1, .ref b2, .ref b3, .int rs, .int vc, .int wv, .int bw]))] sz) := by
  refine Met.ofW (cc := prog_1_method_2_code) (maxL := 2) (ret := (some .int)) (by decide) rfl ?_
  intro p e s m args below meth c s₁ B hml hv
  obtain ⟨rfl, hsz, hP, hK, hD0⟩ := hv
  have hx := B.exec
  have hb := B.bytes
  have hr := B.returns
  have hw : ∀ w ∈ bg_W, w.before #[Value.ref h0, Value.int p0] s = true := fun w h => atoms_spec (ws := (wq y_Cs_variables prog_1_method_2_code 2 (some .int))) B.pre w (List.mem_cons_of_mem _ h)
  have hown : s.vm.findClass R_Cs = some m.cls := findClass_of_methodNamed B.named
  have hlocks := B.notSynchronized
  subst hsz
  have hD := hD0.self (sz := s.heap.size)
  generalize hAe : va_A [(h0, .inr (6, [.ref b0, .ref b1, .ref b2, .ref b3, .int rs, .int vc, .int wv, .int bw]))] s.heap.size = A at hD ⊢
  have hA : ∀ q : Nat, s.heap.size ≤ q → A q := fun q h => by rw [← hAe]; exact Or.inr h
  have hS : va_S A s.heap s.heap [] := va_S.rf
  have hP : va_P (dC, dI) vwCl [(h0, .inr (6, [.ref b0, .ref b1, .ref b2, .ref b3, .int rs, .int vc, .int wv, .int bw]))] s.heap := hP
  have hl := lv_entry ([.ref h0, .int p0]) (n := 2) (Nat.le_of_ble_eq_true rfl)
  rw [lg_entry_eq]
  generalize (lg_sl ([.ref h0, .int p0]) ++ List.replicate (2 - (lg_sl ([.ref h0, .int p0])).length) Slot.unset).toArray = ls at hl ⊢
  have hl : lv_has ls 2 [(0, .ref h0), (1, .int p0)] := hl
  obtain ⟨H, hH⟩ : ∃ H : Heap, H = s.heap := ⟨_, rfl⟩
  rw [← hH] at hP
  have hS : va_S A s.heap H [] := by rw [hH]; exact va_S.rf
  show W p l e _ s m _ below meth c s.heap [] 0 0 _ _
  rw [← hH]
  refine lv_iload_n hx hb d_Cs_variables_0 rfl (lv_at hl 1 rfl) ?_
  refine lv_iconst (v := 1) hx hb d_Cs_variables_1 (by decide) ?_
  refine lv_icmp_lt (tgt := 12) hx hb d_Cs_variables_2 (by decide) (fun c_2 => absurd c_2 (h1)) (fun c_2 => ?_)
  refine lv_iload_n hx hb d_Cs_variables_5 rfl (lv_at hl 1 rfl) ?_
  refine lv_sipush (v := 400) hx hb d_Cs_variables_6 (by decide) ?_
  refine lv_icmp_le (tgt := 22) hx hb d_Cs_variables_9 (by decide) (fun c_9 => ?_) (fun c_9 => absurd c_9 (fun q => q h2))
  refine lv_aload_n hx hb d_Cs_variables_22 rfl (lv_at hl 0 rfl) ?_
  refine va_get (D := (dC, dI)) (ci := 6) (v := .int vc) (C := R_Cs) (T := F_Cs) (N := 8) hx hb hw in_Cs hown hK hP 0 rfl rfl 5 (by decide) (hw (Cond.fieldLink "ClauseSearch" 43 "ClauseSearch" "variableCount" "I") k_260) (fun _ h9 => h9) rfl d_Cs_variables_23 ?_
  refine lv_iload_n hx hb d_Cs_variables_26 rfl (lv_at hl 1 rfl) ?_
  refine lv_iadd hx hb d_Cs_variables_27 ?_
  refine lv_sipush (v := 400) hx hb d_Cs_variables_28 (by decide) ?_
  refine lv_icmp_le (tgt := 44) hx hb d_Cs_variables_31 (by decide) (fun c_31 => ?_) (fun c_31 => absurd c_31 (fun q => q h3))
  refine lv_aload_n hx hb d_Cs_variables_44 rfl (lv_at hl 0 rfl) ?_
  refine lv_dup hx hb d_Cs_variables_45 rfl ?_
  refine va_get (D := (dC, dI)) (ci := 6) (v := .int vc) (C := R_Cs) (T := F_Cs) (N := 8) hx hb hw in_Cs hown hK hP 0 rfl rfl 5 (by decide) (hw (Cond.fieldLink "ClauseSearch" 43 "ClauseSearch" "variableCount" "I") k_260) (fun _ h9 => h9) rfl d_Cs_variables_46 ?_
  refine lv_iload_n hx hb d_Cs_variables_49 rfl (lv_at hl 1 rfl) ?_
  refine lv_iadd hx hb d_Cs_variables_50 ?_
  refine va_put (D := (dC, dI)) (ci := 6) (v := .int (vc + p0)) (ty := .int) (C := R_Cs) (T := F_Cs) (N := 8) hx hb hw in_Cs t_Cs t_Cs_ok n_Cs hown hK hP hD hS 0 rfl rfl 5 (by decide) (hw (Cond.fieldLink "ClauseSearch" 43 "ClauseSearch" "variableCount" "I") k_260) (fun _ h9 => h9) rfl (by decide +kernel) rfl rfl (Nat.le_of_ble_eq_true rfl) d_Cs_variables_51 (fun H locs hP hD hS => ?_)
  have hP : va_P (dC, dI) vwCl [(h0, .inr (6, [.ref b0, .ref b1, .ref b2, .ref b3, .int rs, .int (vc + p0), .int wv, .int bw]))] H := hP
  have hD : va_D A [(h0, .inr (6, [.ref b0, .ref b1, .ref b2, .ref b3, .int rs, .int (vc + p0), .int wv, .int bw]))] := hD
  refine lv_aload_n hx hb d_Cs_variables_54 rfl (lv_at hl 0 rfl) ?_
  refine lv_iconst (v := 0) hx hb d_Cs_variables_55 (by decide) ?_
  refine va_put (D := (dC, dI)) (ci := 6) (v := .int 0) (ty := .boolean) (C := R_Cs) (T := F_Cs) (N := 8) hx hb hw in_Cs t_Cs t_Cs_ok n_Cs hown hK hP hD hS 0 rfl rfl 6 (by decide) (hw (Cond.fieldLink "ClauseSearch" 52 "ClauseSearch" "wayStands" "Z") k_261) (fun _ h9 => h9) rfl (by decide +kernel) rfl rfl (Nat.le_of_ble_eq_true rfl) d_Cs_variables_56 (fun H locs hP hD hS => ?_)
  have hP : va_P (dC, dI) vwCl [(h0, .inr (6, [.ref b0, .ref b1, .ref b2, .ref b3, .int rs, .int (vc + p0), .int 0, .int bw]))] H := hP
  have hD : va_D A [(h0, .inr (6, [.ref b0, .ref b1, .ref b2, .ref b3, .int rs, .int (vc + p0), .int 0, .int bw]))] := hD
  refine lv_aload_n hx hb d_Cs_variables_59 rfl (lv_at hl 0 rfl) ?_
  refine va_get (D := (dC, dI)) (ci := 6) (v := .int (vc + p0)) (C := R_Cs) (T := F_Cs) (N := 8) hx hb hw in_Cs hown hK hP 0 rfl rfl 5 (by decide) (hw (Cond.fieldLink "ClauseSearch" 43 "ClauseSearch" "variableCount" "I") k_260) (fun _ h9 => h9) rfl d_Cs_variables_60 ?_
  refine W.widen (k := 0) (n := 0) (by decide) (by decide) ?_
  exact W.iret (v := vc + p0) hx hb hr (fun t ht hW => ⟨⟨vc + p0, (), rfl, rfl, by rw [ht]; exact hP, va_K.moved hW.alike hK, hD⟩, hS.F ht⟩) hS.2.2 d_Cs_variables_63

set_option maxHeartbeats 4000000 in
set_option maxRecDepth 100000 in
/-- give(l) refuses l -/
theorem x_Cs_give_1 (l : Launch) (hfl : l.flags = pinnedFlags ++ [noTraceFlag]) (dC : Nat → ClassId) (dI : Nat → Nat → Nat) (h0 : Nat) (b0 : Nat) (b1 : Nat) (b2 : Nat) (b3 : Nat) (sz lim : Nat) (rs : Int32) (vc : Int32) (wv : Int32) (bw : Int32) (p0 : Int32) (h : p0 = 0 ∨ vc < p0 ∨ p0 < -vc) : tw_Met l y_Cs_give (wq y_Cs_give prog_1_method_3_code 2 (some .int)) ({ frames := 6, cells := 1, slots := 6, locals := 90 }) (va_Pc [.ref h0, .int p0] (fun U => U.heap.size = sz ∧ va_P (dC, dI) vwCl [(h0, .inr (6, [.ref b0, .ref b1, .ref b2, .ref b3, .int rs, .int vc, .int wv, .int bw]))] U.heap ∧ va_K (dC, dI) vwCl [] U ∧ va_D (fun _ => True) [(h0, .inr (6, [.ref b0, .ref b1, .ref b2, .ref b3, .int rs, .int vc, .int wv, .int bw]))] ∧ tw_Z U U.heap lim)) (tw_Q "java/lang/IllegalArgumentException") 1 6 := by
  refine tw_ofW (cc := prog_1_method_3_code) (maxL := 2) (ret := (some .int)) (by decide) rfl ?_
  intro p e s m args below meth c s₁ B hml hv
  obtain ⟨rfl, hsz, hP, hK, hD0, hz⟩ := hv
  have hx := B.exec
  have hb := B.bytes
  have hr := B.returns
  have hw : ∀ w ∈ bg_W, w.before #[Value.ref h0, Value.int p0] s = true := fun w h => atoms_spec (ws := (wq y_Cs_give prog_1_method_3_code 2 (some .int))) B.pre w (List.mem_cons_of_mem _ h)
  have hown : s.vm.findClass R_Cs = some m.cls := findClass_of_methodNamed B.named
  have hlocks := B.notSynchronized
  subst hsz
  have hD := hD0.self (sz := s.heap.size)
  generalize hAe : va_A [(h0, .inr (6, [.ref b0, .ref b1, .ref b2, .ref b3, .int rs, .int vc, .int wv, .int bw]))] s.heap.size = A at hD ⊢
  have hA : ∀ q : Nat, s.heap.size ≤ q → A q := fun q h => by rw [← hAe]; exact Or.inr h
  have hS : va_S A s.heap s.heap [] := va_S.rf
  have hP : va_P (dC, dI) vwCl [(h0, .inr (6, [.ref b0, .ref b1, .ref b2, .ref b3, .int rs, .int vc, .int wv, .int bw]))] s.heap := hP
  have hl := lv_entry ([.ref h0, .int p0]) (n := 2) (Nat.le_of_ble_eq_true rfl)
  rw [lg_entry_eq]
  generalize (lg_sl ([.ref h0, .int p0]) ++ List.replicate (2 - (lg_sl ([.ref h0, .int p0])).length) Slot.unset).toArray = ls at hl ⊢
  have hl : lv_has ls 2 [(0, .ref h0), (1, .int p0)] := hl
  obtain ⟨H, hH⟩ : ∃ H : Heap, H = s.heap := ⟨_, rfl⟩
  rw [← hH] at hP
  have hS : va_S A s.heap H [] := by rw [hH]; exact va_S.rf
  show W p l e _ s m _ below meth c s.heap [] 0 0 _ _
  rw [← hH]
  refine lv_iload_n hx hb d_Cs_give_0 rfl (lv_at hl 1 rfl) ?_
  refine lv_if_eq (tgt := 21) hx hb d_Cs_give_1 (by decide) (fun c_1 => ?_) (fun c_1 => ?_)
  · refine W.newc hx hb hown (hw (Cond.classLink "ClauseSearch" 36 "java/lang/IllegalArgumentException") k_454) (hw (Cond.instantiable "java/lang/IllegalArgumentException" 6) k_455) (hw (Cond.initialized "java/lang/IllegalArgumentException") k_41) rfl d_Cs_give_21 (Nat.le_of_ble_eq_true rfl) (Nat.le_of_ble_eq_true rfl) (fun cX kX hfX hkX hoX hnX => ?_)
    refine W.eq (g2 := F0 m 24 ls [.ref H.size]) rfl ?_
    refine W.widen (k := 1) (n := 6) (by decide) (by decide) ?_
    refine lv_dup hx hb d_Cs_give_24 rfl ?_
    obtain ⟨k9, cf9, i9, q9, -, -, -, -, -, hev9⟩ := Cond.stringRef_spec hown (hw (Cond.stringRef "ClauseSearch" 56 "no literal of a variable that there is") k_544)
    refine va_ldcS (q := q9) hx hb hown (vk_R.of (A := #[Value.ref h0, Value.int p0]) (hw (Cond.stringRef "ClauseSearch" 56 "no literal of a variable that there is") k_544) hev9) d_Cs_give_25 ?_
    exact tw_throw hx hb hfl hown (by decide) (by decide) (tw_hat hw hz tw_a40) hfX hkX (by simp [freshCell]) (by rw [hH]; exact Nat.le_refl _) (by rw [hml]; exact hl.1) d_Cs_give_27 d_Cs_give_30 (B.noHandlers (hw (Cond.code ⟨"ClauseSearch", "give", "(I)I"⟩ prog_1_method_3_code 2 (some .int)) k_543)) (Nat.le_of_ble_eq_true rfl) (Nat.le_of_ble_eq_true rfl) hlocks
  · refine lv_iload_n hx hb d_Cs_give_4 rfl (lv_at hl 1 rfl) ?_
    refine lv_aload_n hx hb d_Cs_give_5 rfl (lv_at hl 0 rfl) ?_
    refine va_get (D := (dC, dI)) (ci := 6) (v := .int vc) (C := R_Cs) (T := F_Cs) (N := 8) hx hb hw in_Cs hown hK hP 0 rfl rfl 5 (by decide) (hw (Cond.fieldLink "ClauseSearch" 43 "ClauseSearch" "variableCount" "I") k_260) (fun _ h9 => h9) rfl d_Cs_give_6 ?_
    refine lv_icmp_gt (tgt := 21) hx hb d_Cs_give_9 (by decide) (fun c_9 => ?_) (fun c_9 => ?_)
    · refine W.newc hx hb hown (hw (Cond.classLink "ClauseSearch" 36 "java/lang/IllegalArgumentException") k_454) (hw (Cond.instantiable "java/lang/IllegalArgumentException" 6) k_455) (hw (Cond.initialized "java/lang/IllegalArgumentException") k_41) rfl d_Cs_give_21 (Nat.le_of_ble_eq_true rfl) (Nat.le_of_ble_eq_true rfl) (fun cX kX hfX hkX hoX hnX => ?_)
      refine W.eq (g2 := F0 m 24 ls [.ref H.size]) rfl ?_
      refine W.widen (k := 1) (n := 6) (by decide) (by decide) ?_
      refine lv_dup hx hb d_Cs_give_24 rfl ?_
      obtain ⟨k9, cf9, i9, q9, -, -, -, -, -, hev9⟩ := Cond.stringRef_spec hown (hw (Cond.stringRef "ClauseSearch" 56 "no literal of a variable that there is") k_544)
      refine va_ldcS (q := q9) hx hb hown (vk_R.of (A := #[Value.ref h0, Value.int p0]) (hw (Cond.stringRef "ClauseSearch" 56 "no literal of a variable that there is") k_544) hev9) d_Cs_give_25 ?_
      exact tw_throw hx hb hfl hown (by decide) (by decide) (tw_hat hw hz tw_a40) hfX hkX (by simp [freshCell]) (by rw [hH]; exact Nat.le_refl _) (by rw [hml]; exact hl.1) d_Cs_give_27 d_Cs_give_30 (B.noHandlers (hw (Cond.code ⟨"ClauseSearch", "give", "(I)I"⟩ prog_1_method_3_code 2 (some .int)) k_543)) (Nat.le_of_ble_eq_true rfl) (Nat.le_of_ble_eq_true rfl) hlocks
    · refine lv_iload_n hx hb d_Cs_give_12 rfl (lv_at hl 1 rfl) ?_
      refine lv_aload_n hx hb d_Cs_give_13 rfl (lv_at hl 0 rfl) ?_
      refine va_get (D := (dC, dI)) (ci := 6) (v := .int vc) (C := R_Cs) (T := F_Cs) (N := 8) hx hb hw in_Cs hown hK hP 0 rfl rfl 5 (by decide) (hw (Cond.fieldLink "ClauseSearch" 43 "ClauseSearch" "variableCount" "I") k_260) (fun _ h9 => h9) rfl d_Cs_give_14 ?_
      refine lv_ineg hx hb d_Cs_give_17 ?_
      refine lv_icmp_ge (tgt := 31) hx hb d_Cs_give_18 (by decide) (fun c_18 => absurd c_18 (by rcases h with h | h | h; exact absurd h c_1; exact absurd h c_9; exact Int32.not_le.mpr h)) (fun c_18 => ?_)
      refine W.newc hx hb hown (hw (Cond.classLink "ClauseSearch" 36 "java/lang/IllegalArgumentException") k_454) (hw (Cond.instantiable "java/lang/IllegalArgumentException" 6) k_455) (hw (Cond.initialized "java/lang/IllegalArgumentException") k_41) rfl d_Cs_give_21 (Nat.le_of_ble_eq_true rfl) (Nat.le_of_ble_eq_true rfl) (fun cX kX hfX hkX hoX hnX => ?_)
      refine W.eq (g2 := F0 m 24 ls [.ref H.size]) rfl ?_
      refine W.widen (k := 1) (n := 6) (by decide) (by decide) ?_
      refine lv_dup hx hb d_Cs_give_24 rfl ?_
      obtain ⟨k9, cf9, i9, q9, -, -, -, -, -, hev9⟩ := Cond.stringRef_spec hown (hw (Cond.stringRef "ClauseSearch" 56 "no literal of a variable that there is") k_544)
      refine va_ldcS (q := q9) hx hb hown (vk_R.of (A := #[Value.ref h0, Value.int p0]) (hw (Cond.stringRef "ClauseSearch" 56 "no literal of a variable that there is") k_544) hev9) d_Cs_give_25 ?_
      exact tw_throw hx hb hfl hown (by decide) (by decide) (tw_hat hw hz tw_a40) hfX hkX (by simp [freshCell]) (by rw [hH]; exact Nat.le_refl _) (by rw [hml]; exact hl.1) d_Cs_give_27 d_Cs_give_30 (B.noHandlers (hw (Cond.code ⟨"ClauseSearch", "give", "(I)I"⟩ prog_1_method_3_code 2 (some .int)) k_543)) (Nat.le_of_ble_eq_true rfl) (Nat.le_of_ble_eq_true rfl) hlocks

set_option maxHeartbeats 4000000 in
set_option maxRecDepth 100000 in
/-- clause() refuses an empty row -/
theorem x_Cs_clause_1 (l : Launch) (hfl : l.flags = pinnedFlags ++ [noTraceFlag]) (dC : Nat → ClassId) (dI : Nat → Nat → Nat) (h0 : Nat) (b0 : Nat) (b1 : Nat) (b2 : Nat) (b3 : Nat) (sz lim : Nat) (rs : Int32) (vc : Int32) (wv : Int32) (bw : Int32) (h : rs = 0) : tw_Met l y_Cs_clause (wq y_Cs_clause prog_1_method_4_code 1 (some .int)) ({ frames := 6, cells := 1, slots := 6, locals := 90 }) (va_Pc [.ref h0] (fun U => U.heap.size = sz ∧ va_P (dC, dI) vwCl [(h0, .inr (6, [.ref b0, .ref b1, .ref b2, .ref b3, .int rs, .int vc, .int wv, .int bw]))] U.heap ∧ va_K (dC, dI) vwCl [] U ∧ va_D (fun _ => True) [(h0, .inr (6, [.ref b0, .ref b1, .ref b2, .ref b3, .int rs, .int vc, .int wv, .int bw]))] ∧ tw_Z U U.heap lim)) (tw_Q "java/lang/IllegalStateException") 1 6 := by
  refine tw_ofW (cc := prog_1_method_4_code) (maxL := 1) (ret := (some .int)) (by decide) rfl ?_
  intro p e s m args below meth c s₁ B hml hv
  obtain ⟨rfl, hsz, hP, hK, hD0, hz⟩ := hv
  have hx := B.exec
  have hb := B.bytes
  have hr := B.returns
  have hw : ∀ w ∈ bg_W, w.before #[Value.ref h0] s = true := fun w h => atoms_spec (ws := (wq y_Cs_clause prog_1_method_4_code 1 (some .int))) B.pre w (List.mem_cons_of_mem _ h)
  have hown : s.vm.findClass R_Cs = some m.cls := findClass_of_methodNamed B.named
  have hlocks := B.notSynchronized
  subst hsz
  have hD := hD0.self (sz := s.heap.size)
  generalize hAe : va_A [(h0, .inr (6, [.ref b0, .ref b1, .ref b2, .ref b3, .int rs, .int vc, .int wv, .int bw]))] s.heap.size = A at hD ⊢
  have hA : ∀ q : Nat, s.heap.size ≤ q → A q := fun q h => by rw [← hAe]; exact Or.inr h
  have hS : va_S A s.heap s.heap [] := va_S.rf
  have hP : va_P (dC, dI) vwCl [(h0, .inr (6, [.ref b0, .ref b1, .ref b2, .ref b3, .int rs, .int vc, .int wv, .int bw]))] s.heap := hP
  have hl := lv_entry ([.ref h0]) (n := 1) (Nat.le_of_ble_eq_true rfl)
  rw [lg_entry_eq]
  generalize (lg_sl ([.ref h0]) ++ List.replicate (1 - (lg_sl ([.ref h0])).length) Slot.unset).toArray = ls at hl ⊢
  have hl : lv_has ls 1 [(0, .ref h0)] := hl
  obtain ⟨H, hH⟩ : ∃ H : Heap, H = s.heap := ⟨_, rfl⟩
  rw [← hH] at hP
  have hS : va_S A s.heap H [] := by rw [hH]; exact va_S.rf
  show W p l e _ s m _ below meth c s.heap [] 0 0 _ _
  rw [← hH]
  refine lv_aload_n hx hb d_Cs_clause_0 rfl (lv_at hl 0 rfl) ?_
  refine va_get (D := (dC, dI)) (ci := 6) (v := .int rs) (C := R_Cs) (T := F_Cs) (N := 8) hx hb hw in_Cs hown hK hP 0 rfl rfl 4 (by decide) (hw (Cond.fieldLink "ClauseSearch" 58 "ClauseSearch" "rowSize" "I") k_259) (fun _ h9 => h9) rfl d_Cs_clause_1 ?_
  refine lv_if_ne (tgt := 17) hx hb d_Cs_clause_4 (by decide) (fun c_4 => absurd c_4 (fun q => q h)) (fun c_4 => ?_)
  refine W.newc hx hb hown (hw (Cond.classLink "ClauseSearch" 63 "java/lang/IllegalStateException") k_554) (hw (Cond.instantiable "java/lang/IllegalStateException" 6) k_555) (hw (Cond.initialized "java/lang/IllegalStateException") k_43) rfl d_Cs_clause_7 (Nat.le_of_ble_eq_true rfl) (Nat.le_of_ble_eq_true rfl) (fun cX kX hfX hkX hoX hnX => ?_)
  refine W.eq (g2 := F0 m 10 ls [.ref H.size]) rfl ?_
  refine W.widen (k := 1) (n := 6) (by decide) (by decide) ?_
  refine lv_dup hx hb d_Cs_clause_10 rfl ?_
  obtain ⟨k9, cf9, i9, q9, -, -, -, -, -, hev9⟩ := Cond.stringRef_spec hown (hw (Cond.stringRef "ClauseSearch" 65 "the row is empty") k_563)
  refine va_ldcS (q := q9) hx hb hown (vk_R.of (A := #[Value.ref h0]) (hw (Cond.stringRef "ClauseSearch" 65 "the row is empty") k_563) hev9) d_Cs_clause_11 ?_
  exact tw_throw hx hb hfl hown (by decide) (by decide) (tw_hat hw hz tw_a67) hfX hkX (by simp [freshCell]) (by rw [hH]; exact Nat.le_refl _) (by rw [hml]; exact hl.1) d_Cs_clause_13 d_Cs_clause_16 (B.noHandlers (hw (Cond.code ⟨"ClauseSearch", "clause", "()I"⟩ prog_1_method_4_code 1 (some .int)) k_553)) (Nat.le_of_ble_eq_true rfl) (Nat.le_of_ble_eq_true rfl) hlocks

set_option maxHeartbeats 4000000 in
set_option maxRecDepth 100000 in
/-- value(v) refuses v -/
theorem x_Cs_value_1 (l : Launch) (hfl : l.flags = pinnedFlags ++ [noTraceFlag]) (dC : Nat → ClassId) (dI : Nat → Nat → Nat) (h0 : Nat) (b0 : Nat) (b1 : Nat) (b2 : Nat) (b3 : Nat) (sz lim : Nat) (rs : Int32) (vc : Int32) (wv : Int32) (bw : Int32) (p0 : Int32) (h : p0 < 1 ∨ vc < p0) : tw_Met l y_Cs_value (wq y_Cs_value prog_1_method_6_code 2 (some .boolean)) ({ frames := 6, cells := 1, slots := 6, locals := 90 }) (va_Pc [.ref h0, .int p0] (fun U => U.heap.size = sz ∧ va_P (dC, dI) vwCl [(h0, .inr (6, [.ref b0, .ref b1, .ref b2, .ref b3, .int rs, .int vc, .int wv, .int bw]))] U.heap ∧ va_K (dC, dI) vwCl [] U ∧ va_D (fun _ => True) [(h0, .inr (6, [.ref b0, .ref b1, .ref b2, .ref b3, .int rs, .int vc, .int wv, .int bw]))] ∧ tw_Z U U.heap lim)) (tw_Q "java/lang/IllegalArgumentException") 1 6 := by
  refine tw_ofW (cc := prog_1_method_6_code) (maxL := 2) (ret := (some .boolean)) (by decide) rfl ?_
  intro p e s m args below meth c s₁ B hml hv
  obtain ⟨rfl, hsz, hP, hK, hD0, hz⟩ := hv
  have hx := B.exec
  have hb := B.bytes
  have hr := B.returns
  have hw : ∀ w ∈ bg_W, w.before #[Value.ref h0, Value.int p0] s = true := fun w h => atoms_spec (ws := (wq y_Cs_value prog_1_method_6_code 2 (some .boolean))) B.pre w (List.mem_cons_of_mem _ h)
  have hown : s.vm.findClass R_Cs = some m.cls := findClass_of_methodNamed B.named
  have hlocks := B.notSynchronized
  subst hsz
  have hD := hD0.self (sz := s.heap.size)
  generalize hAe : va_A [(h0, .inr (6, [.ref b0, .ref b1, .ref b2, .ref b3, .int rs, .int vc, .int wv, .int bw]))] s.heap.size = A at hD ⊢
  have hA : ∀ q : Nat, s.heap.size ≤ q → A q := fun q h => by rw [← hAe]; exact Or.inr h
  have hS : va_S A s.heap s.heap [] := va_S.rf
  have hP : va_P (dC, dI) vwCl [(h0, .inr (6, [.ref b0, .ref b1, .ref b2, .ref b3, .int rs, .int vc, .int wv, .int bw]))] s.heap := hP
  have hl := lv_entry ([.ref h0, .int p0]) (n := 2) (Nat.le_of_ble_eq_true rfl)
  rw [lg_entry_eq]
  generalize (lg_sl ([.ref h0, .int p0]) ++ List.replicate (2 - (lg_sl ([.ref h0, .int p0])).length) Slot.unset).toArray = ls at hl ⊢
  have hl : lv_has ls 2 [(0, .ref h0), (1, .int p0)] := hl
  obtain ⟨H, hH⟩ : ∃ H : Heap, H = s.heap := ⟨_, rfl⟩
  rw [← hH] at hP
  have hS : va_S A s.heap H [] := by rw [hH]; exact va_S.rf
  show W p l e _ s m _ below meth c s.heap [] 0 0 _ _
  rw [← hH]
  refine lv_iload_n hx hb d_Cs_value_0 rfl (lv_at hl 1 rfl) ?_
  refine lv_iconst (v := 1) hx hb d_Cs_value_1 (by decide) ?_
  refine lv_icmp_lt (tgt := 13) hx hb d_Cs_value_2 (by decide) (fun c_2 => ?_) (fun c_2 => ?_)
  · refine W.newc hx hb hown (hw (Cond.classLink "ClauseSearch" 36 "java/lang/IllegalArgumentException") k_454) (hw (Cond.instantiable "java/lang/IllegalArgumentException" 6) k_455) (hw (Cond.initialized "java/lang/IllegalArgumentException") k_41) rfl d_Cs_value_13 (Nat.le_of_ble_eq_true rfl) (Nat.le_of_ble_eq_true rfl) (fun cX kX hfX hkX hoX hnX => ?_)
    refine W.eq (g2 := F0 m 16 ls [.ref H.size]) rfl ?_
    refine W.widen (k := 1) (n := 6) (by decide) (by decide) ?_
    refine lv_dup hx hb d_Cs_value_16 rfl ?_
    obtain ⟨k9, cf9, i9, q9, -, -, -, -, -, hev9⟩ := Cond.stringRef_spec hown (hw (Cond.stringRef "ClauseSearch" 89 "no variable has this number") k_587)
    refine va_ldcS (q := q9) hx hb hown (vk_R.of (A := #[Value.ref h0, Value.int p0]) (hw (Cond.stringRef "ClauseSearch" 89 "no variable has this number") k_587) hev9) d_Cs_value_17 ?_
    exact tw_throw hx hb hfl hown (by decide) (by decide) (tw_hat hw hz tw_a40) hfX hkX (by simp [freshCell]) (by rw [hH]; exact Nat.le_refl _) (by rw [hml]; exact hl.1) d_Cs_value_19 d_Cs_value_22 (B.noHandlers (hw (Cond.code ⟨"ClauseSearch", "value", "(I)Z"⟩ prog_1_method_6_code 2 (some .boolean)) k_586)) (Nat.le_of_ble_eq_true rfl) (Nat.le_of_ble_eq_true rfl) hlocks
  · refine lv_iload_n hx hb d_Cs_value_5 rfl (lv_at hl 1 rfl) ?_
    refine lv_aload_n hx hb d_Cs_value_6 rfl (lv_at hl 0 rfl) ?_
    refine va_get (D := (dC, dI)) (ci := 6) (v := .int vc) (C := R_Cs) (T := F_Cs) (N := 8) hx hb hw in_Cs hown hK hP 0 rfl rfl 5 (by decide) (hw (Cond.fieldLink "ClauseSearch" 43 "ClauseSearch" "variableCount" "I") k_260) (fun _ h9 => h9) rfl d_Cs_value_7 ?_
    refine lv_icmp_le (tgt := 23) hx hb d_Cs_value_10 (by decide) (fun c_10 => absurd c_10 (by rcases h with h | h; exact absurd h c_2; exact Int32.not_le.mpr h)) (fun c_10 => ?_)
    refine W.newc hx hb hown (hw (Cond.classLink "ClauseSearch" 36 "java/lang/IllegalArgumentException") k_454) (hw (Cond.instantiable "java/lang/IllegalArgumentException" 6) k_455) (hw (Cond.initialized "java/lang/IllegalArgumentException") k_41) rfl d_Cs_value_13 (Nat.le_of_ble_eq_true rfl) (Nat.le_of_ble_eq_true rfl) (fun cX kX hfX hkX hoX hnX => ?_)
    refine W.eq (g2 := F0 m 16 ls [.ref H.size]) rfl ?_
    refine W.widen (k := 1) (n := 6) (by decide) (by decide) ?_
    refine lv_dup hx hb d_Cs_value_16 rfl ?_
    obtain ⟨k9, cf9, i9, q9, -, -, -, -, -, hev9⟩ := Cond.stringRef_spec hown (hw (Cond.stringRef "ClauseSearch" 89 "no variable has this number") k_587)
    refine va_ldcS (q := q9) hx hb hown (vk_R.of (A := #[Value.ref h0, Value.int p0]) (hw (Cond.stringRef "ClauseSearch" 89 "no variable has this number") k_587) hev9) d_Cs_value_17 ?_
    exact tw_throw hx hb hfl hown (by decide) (by decide) (tw_hat hw hz tw_a40) hfX hkX (by simp [freshCell]) (by rw [hH]; exact Nat.le_refl _) (by rw [hml]; exact hl.1) d_Cs_value_19 d_Cs_value_22 (B.noHandlers (hw (Cond.code ⟨"ClauseSearch", "value", "(I)Z"⟩ prog_1_method_6_code 2 (some .boolean)) k_586)) (Nat.le_of_ble_eq_true rfl) (Nat.le_of_ble_eq_true rfl) hlocks

set_option maxHeartbeats 4000000 in
set_option maxRecDepth 100000 in
/-- count(what) refuses what -/
theorem x_Cs_count_1 (l : Launch) (hfl : l.flags = pinnedFlags ++ [noTraceFlag]) (dC : Nat → ClassId) (dI : Nat → Nat → Nat) (h0 : Nat) (b0 : Nat) (b1 : Nat) (b2 : Nat) (b3 : Nat) (sz lim : Nat) (rs : Int32) (vc : Int32) (wv : Int32) (bw : Int32) (p0 : Int32) (h : p0.toInt < 0 ∨ 5 < p0.toInt) : tw_Met l y_Cs_count (wq y_Cs_count prog_1_method_7_code 2 (some .int)) ({ frames := 6, cells := 1, slots := 6, locals := 90 }) (va_Pc [.ref h0, .int p0] (fun U => U.heap.size = sz ∧ va_P (dC, dI) vwCl [(h0, .inr (6, [.ref b0, .ref b1, .ref b2, .ref b3, .int rs, .int vc, .int wv, .int bw]))] U.heap ∧ va_K (dC, dI) vwCl [] U ∧ va_D (fun _ => True) [(h0, .inr (6, [.ref b0, .ref b1, .ref b2, .ref b3, .int rs, .int vc, .int wv, .int bw]))] ∧ tw_Z U U.heap lim)) (tw_Q "java/lang/IllegalArgumentException") 1 6 := by
  refine tw_ofW (cc := prog_1_method_7_code) (maxL := 2) (ret := (some .int)) (by decide) rfl ?_
  intro p e s m args below meth c s₁ B hml hv
  obtain ⟨rfl, hsz, hP, hK, hD0, hz⟩ := hv
  have hx := B.exec
  have hb := B.bytes
  have hr := B.returns
  have hw : ∀ w ∈ bg_W, w.before #[Value.ref h0, Value.int p0] s = true := fun w h => atoms_spec (ws := (wq y_Cs_count prog_1_method_7_code 2 (some .int))) B.pre w (List.mem_cons_of_mem _ h)
  have hown : s.vm.findClass R_Cs = some m.cls := findClass_of_methodNamed B.named
  have hlocks := B.notSynchronized
  subst hsz
  have hD := hD0.self (sz := s.heap.size)
  generalize hAe : va_A [(h0, .inr (6, [.ref b0, .ref b1, .ref b2, .ref b3, .int rs, .int vc, .int wv, .int bw]))] s.heap.size = A at hD ⊢
  have hA : ∀ q : Nat, s.heap.size ≤ q → A q := fun q h => by rw [← hAe]; exact Or.inr h
  have hS : va_S A s.heap s.heap [] := va_S.rf
  have hP : va_P (dC, dI) vwCl [(h0, .inr (6, [.ref b0, .ref b1, .ref b2, .ref b3, .int rs, .int vc, .int wv, .int bw]))] s.heap := hP
  have hl := lv_entry ([.ref h0, .int p0]) (n := 2) (Nat.le_of_ble_eq_true rfl)
  rw [lg_entry_eq]
  generalize (lg_sl ([.ref h0, .int p0]) ++ List.replicate (2 - (lg_sl ([.ref h0, .int p0])).length) Slot.unset).toArray = ls at hl ⊢
  have hl : lv_has ls 2 [(0, .ref h0), (1, .int p0)] := hl
  obtain ⟨H, hH⟩ : ∃ H : Heap, H = s.heap := ⟨_, rfl⟩
  rw [← hH] at hP
  have hS : va_S A s.heap H [] := by rw [hH]; exact va_S.rf
  show W p l e _ s m _ below meth c s.heap [] 0 0 _ _
  rw [← hH]
  refine lv_iload_n hx hb d_Cs_count_0 rfl (lv_at hl 1 rfl) ?_
  refine lv_tableOut (tgt := 84) hx hb d_Cs_count_1 h (by decide) ?_
  refine W.newc hx hb hown (hw (Cond.classLink "ClauseSearch" 36 "java/lang/IllegalArgumentException") k_454) (hw (Cond.instantiable "java/lang/IllegalArgumentException" 6) k_455) (hw (Cond.initialized "java/lang/IllegalArgumentException") k_41) rfl d_Cs_count_84 (Nat.le_of_ble_eq_true rfl) (Nat.le_of_ble_eq_true rfl) (fun cX kX hfX hkX hoX hnX => ?_)
  refine W.eq (g2 := F0 m 87 ls [.ref H.size]) rfl ?_
  refine W.widen (k := 1) (n := 6) (by decide) (by decide) ?_
  refine lv_dup hx hb d_Cs_count_87 rfl ?_
  obtain ⟨k9, cf9, i9, q9, -, -, -, -, -, hev9⟩ := Cond.stringRef_spec hown (hw (Cond.stringRef "ClauseSearch" 99 "what is counted is 0 to 5") k_596)
  refine va_ldcS (q := q9) hx hb hown (vk_R.of (A := #[Value.ref h0, Value.int p0]) (hw (Cond.stringRef "ClauseSearch" 99 "what is counted is 0 to 5") k_596) hev9) d_Cs_count_88 ?_
  exact tw_throw hx hb hfl hown (by decide) (by decide) (tw_hat hw hz tw_a40) hfX hkX (by simp [freshCell]) (by rw [hH]; exact Nat.le_refl _) (by rw [hml]; exact hl.1) d_Cs_count_90 d_Cs_count_93 (B.noHandlers (hw (Cond.code ⟨"ClauseSearch", "count", "(I)I"⟩ prog_1_method_7_code 2 (some .int)) k_595)) (Nat.le_of_ble_eq_true rfl) (Nat.le_of_ble_eq_true rfl) hlocks
end
section
abbrev y_Tr_shrink : MethodName := ⟨"ClauseSearch$Trail", "shrink", "(I)V"⟩
abbrev y_Tr_clear : MethodName := ⟨"ClauseSearch$Trail", "clear", "()V"⟩
abbrev y_Sr_putFacts : MethodName := ⟨"ClauseSearch$Search", "putFacts", "()V"⟩
abbrev y_Wt_follow : MethodName := ⟨"ClauseSearch$Watch", "follow", "()I"⟩
abbrev y_Tr_lowestUnknown : MethodName := ⟨"ClauseSearch$Trail", "lowestUnknown", "(I)I"⟩
abbrev y_Sr_codeToTry : MethodName := ⟨"ClauseSearch$Search", "codeToTry", "(I[II)I"⟩
abbrev y_Sr_findLeast : MethodName := ⟨"ClauseSearch$Search", "findLeast", "(I[II)Z"⟩
abbrev y_Sr_tellWay : MethodName := ⟨"ClauseSearch$Search", "tellWay", "([ZI)V"⟩
theorem k_0 : (Cond.selects "ClauseSearch$Trail" ⟨"ClauseSearch$Trail", "shrink", "(I)V"⟩ ⟨"ClauseSearch$Trail", "shrink", "(I)V"⟩) ∈ bg_W := bg_in 0 (by decide +kernel) (by decide +kernel)
theorem k_1 : (Cond.selects "ClauseSearch$Search" ⟨"ClauseSearch$Search", "putFacts", "()V"⟩ ⟨"ClauseSearch$Search", "putFacts", "()V"⟩) ∈ bg_W := bg_in 1 (by decide +kernel) (by decide +kernel)
theorem k_14 : (Cond.selects "ClauseSearch$Search" ⟨"ClauseSearch$Search", "codeToTry", "(I[II)I"⟩ ⟨"ClauseSearch$Search", "codeToTry", "(I[II)I"⟩) ∈ bg_W := bg_in 14 (by decide +kernel) (by decide +kernel)
theorem k_44 : (Cond.initialized "java/lang/Math") ∈ bg_W := bg_in 44 (by decide +kernel) (by decide +kernel)
theorem k_110 : (Cond.fieldLink "ClauseSearch$Trail" 35 "ClauseSearch$Trail" "size" "I") ∈ bg_W := bg_in 110 (by decide +kernel) (by decide +kernel)
theorem k_111 : (Cond.fieldLinkNest "ClauseSearch$Watch" 61 "ClauseSearch$Trail" "size" "I" "ClauseSearch") ∈ bg_W := bg_in 111 (by decide +kernel) (by decide +kernel)
theorem k_112 : (Cond.fieldLinkNest "ClauseSearch$Watch" 56 "ClauseSearch$Trail" "followed" "I" "ClauseSearch") ∈ bg_W := bg_in 112 (by decide +kernel) (by decide +kernel)
theorem k_113 : (Cond.fieldLink "ClauseSearch$Trail" 52 "ClauseSearch$Trail" "followed" "I") ∈ bg_W := bg_in 113 (by decide +kernel) (by decide +kernel)
theorem k_114 : (Cond.fieldLink "ClauseSearch$Trail" 32 "ClauseSearch$Trail" "level" "I") ∈ bg_W := bg_in 114 (by decide +kernel) (by decide +kernel)
theorem k_225 : (Cond.fieldLink "ClauseSearch$Search" 76 "ClauseSearch$Search" "factCount" "I") ∈ bg_W := bg_in 225 (by decide +kernel) (by decide +kernel)
theorem k_229 : (Cond.fieldLink "ClauseSearch$Search" 89 "ClauseSearch$Search" "hopeless" "Z") ∈ bg_W := bg_in 229 (by decide +kernel) (by decide +kernel)
theorem k_288 : (Cond.methodLink "ClauseSearch$Search" 79 ⟨"ClauseSearch$Trail", "clear", "()V"⟩) ∈ bg_W := bg_in 288 (by decide +kernel) (by decide +kernel)
theorem k_289 : (Cond.instanceMethod ⟨"ClauseSearch$Trail", "clear", "()V"⟩) ∈ bg_W := bg_in 289 (by decide +kernel) (by decide +kernel)
theorem k_290 : (Cond.selects "ClauseSearch$Trail" ⟨"ClauseSearch$Trail", "clear", "()V"⟩ ⟨"ClauseSearch$Trail", "clear", "()V"⟩) ∈ bg_W := bg_in 290 (by decide +kernel) (by decide +kernel)
theorem k_291 : (Cond.code ⟨"ClauseSearch$Trail", "clear", "()V"⟩ prog_6_method_5_code 1 none) ∈ bg_W := bg_in 291 (by decide +kernel) (by decide +kernel)
theorem k_292 : (Cond.methodLink "ClauseSearch$Trail" 42 ⟨"ClauseSearch$Trail", "shrink", "(I)V"⟩) ∈ bg_W := bg_in 292 (by decide +kernel) (by decide +kernel)
theorem k_294 : (Cond.instanceMethod ⟨"ClauseSearch$Trail", "shrink", "(I)V"⟩) ∈ bg_W := bg_in 294 (by decide +kernel) (by decide +kernel)
theorem k_295 : (Cond.code ⟨"ClauseSearch$Trail", "shrink", "(I)V"⟩ prog_6_method_6_code 3 none) ∈ bg_W := bg_in 295 (by decide +kernel) (by decide +kernel)
theorem k_296 : (Cond.methodLink "ClauseSearch$Trail" 46 ⟨"java/lang/Math", "min", "(II)I"⟩) ∈ bg_W := bg_in 296 (by decide +kernel) (by decide +kernel)
theorem k_297 : (Cond.static ⟨"java/lang/Math", "min", "(II)I"⟩) ∈ bg_W := bg_in 297 (by decide +kernel) (by decide +kernel)
theorem k_298 : (Cond.code ⟨"java/lang/Math", "min", "(II)I"⟩ prog_15_method_69_code 2 (some .int)) ∈ bg_W := bg_in 298 (by decide +kernel) (by decide +kernel)
theorem k_299 : (Cond.methodLink "ClauseSearch$Search" 84 ⟨"ClauseSearch$Search", "putFacts", "()V"⟩) ∈ bg_W := bg_in 299 (by decide +kernel) (by decide +kernel)
theorem k_301 : (Cond.instanceMethod ⟨"ClauseSearch$Search", "putFacts", "()V"⟩) ∈ bg_W := bg_in 301 (by decide +kernel) (by decide +kernel)
theorem k_302 : (Cond.code ⟨"ClauseSearch$Search", "putFacts", "()V"⟩ prog_5_method_6_code 2 none) ∈ bg_W := bg_in 302 (by decide +kernel) (by decide +kernel)
theorem k_307 : (Cond.constantLong "ClauseSearch$Search" 87 1099511627776) ∈ bg_W := bg_in 307 (by decide +kernel) (by decide +kernel)
theorem k_308 : (Cond.methodLink "ClauseSearch$Search" 93 ⟨"ClauseSearch$Watch", "follow", "()I"⟩) ∈ bg_W := bg_in 308 (by decide +kernel) (by decide +kernel)
theorem k_309 : (Cond.instanceMethod ⟨"ClauseSearch$Watch", "follow", "()I"⟩) ∈ bg_W := bg_in 309 (by decide +kernel) (by decide +kernel)
theorem k_310 : (Cond.selects "ClauseSearch$Watch" ⟨"ClauseSearch$Watch", "follow", "()I"⟩ ⟨"ClauseSearch$Watch", "follow", "()I"⟩) ∈ bg_W := bg_in 310 (by decide +kernel) (by decide +kernel)
theorem k_311 : (Cond.code ⟨"ClauseSearch$Watch", "follow", "()I"⟩ prog_7_method_5_code 3 (some .int)) ∈ bg_W := bg_in 311 (by decide +kernel) (by decide +kernel)
theorem k_412 : (Cond.methodLink "ClauseSearch$Search" 100 ⟨"ClauseSearch$Search", "codeToTry", "(I[II)I"⟩) ∈ bg_W := bg_in 412 (by decide +kernel) (by decide +kernel)
theorem k_414 : (Cond.instanceMethod ⟨"ClauseSearch$Search", "codeToTry", "(I[II)I"⟩) ∈ bg_W := bg_in 414 (by decide +kernel) (by decide +kernel)
theorem k_415 : (Cond.code ⟨"ClauseSearch$Search", "codeToTry", "(I[II)I"⟩ prog_5_method_7_code 5 (some .int)) ∈ bg_W := bg_in 415 (by decide +kernel) (by decide +kernel)
theorem k_416 : (Cond.methodLink "ClauseSearch$Search" 115 ⟨"ClauseSearch$Trail", "lowestUnknown", "(I)I"⟩) ∈ bg_W := bg_in 416 (by decide +kernel) (by decide +kernel)
theorem k_417 : (Cond.instanceMethod ⟨"ClauseSearch$Trail", "lowestUnknown", "(I)I"⟩) ∈ bg_W := bg_in 417 (by decide +kernel) (by decide +kernel)
theorem k_418 : (Cond.selects "ClauseSearch$Trail" ⟨"ClauseSearch$Trail", "lowestUnknown", "(I)I"⟩ ⟨"ClauseSearch$Trail", "lowestUnknown", "(I)I"⟩) ∈ bg_W := bg_in 418 (by decide +kernel) (by decide +kernel)
theorem k_419 : (Cond.code ⟨"ClauseSearch$Trail", "lowestUnknown", "(I)I"⟩ prog_6_method_7_code 2 (some .int)) ∈ bg_W := bg_in 419 (by decide +kernel) (by decide +kernel)
theorem d_Tr_shrink_0 : decode prog_6_method_6_code 0 = .ok (.aload_n 0, 1) := by decide +kernel
theorem d_Tr_shrink_1 : decode prog_6_method_6_code 1 = .ok (.getfield 35, 3) := by decide +kernel
theorem d_Tr_shrink_4 : decode prog_6_method_6_code 4 = .ok (.iload_n 1, 1) := by decide +kernel
theorem d_Tr_shrink_5 : decode prog_6_method_6_code 5 = .ok (.if_icmp .le 58, 3) := by decide +kernel
theorem d_Tr_shrink_63 : decode prog_6_method_6_code 63 = .ok (.aload_n 0, 1) := by decide +kernel
theorem d_Tr_shrink_64 : decode prog_6_method_6_code 64 = .ok (.aload_n 0, 1) := by decide +kernel
theorem d_Tr_shrink_65 : decode prog_6_method_6_code 65 = .ok (.getfield 52, 3) := by decide +kernel
theorem d_Tr_shrink_68 : decode prog_6_method_6_code 68 = .ok (.aload_n 0, 1) := by decide +kernel
theorem d_Tr_shrink_69 : decode prog_6_method_6_code 69 = .ok (.getfield 35, 3) := by decide +kernel
theorem d_Tr_shrink_72 : decode prog_6_method_6_code 72 = .ok (.invokestatic 46, 3) := by decide +kernel
theorem d_Tr_shrink_75 : decode prog_6_method_6_code 75 = .ok (.putfield 52, 3) := by decide +kernel
theorem d_Tr_shrink_78 : decode prog_6_method_6_code 78 = .ok (.return_, 1) := by decide +kernel
theorem d_Tr_clear_0 : decode prog_6_method_5_code 0 = .ok (.aload_n 0, 1) := by decide +kernel
theorem d_Tr_clear_1 : decode prog_6_method_5_code 1 = .ok (.iconst 0, 1) := by decide +kernel
theorem d_Tr_clear_2 : decode prog_6_method_5_code 2 = .ok (.invokevirtual 42, 3) := by decide +kernel
theorem d_Tr_clear_5 : decode prog_6_method_5_code 5 = .ok (.aload_n 0, 1) := by decide +kernel
theorem d_Tr_clear_6 : decode prog_6_method_5_code 6 = .ok (.iconst 0, 1) := by decide +kernel
theorem d_Tr_clear_7 : decode prog_6_method_5_code 7 = .ok (.putfield 32, 3) := by decide +kernel
theorem d_Tr_clear_10 : decode prog_6_method_5_code 10 = .ok (.return_, 1) := by decide +kernel
theorem d_Sr_putFacts_0 : decode prog_5_method_6_code 0 = .ok (.iconst 0, 1) := by decide +kernel
theorem d_Sr_putFacts_1 : decode prog_5_method_6_code 1 = .ok (.istore_n 1, 1) := by decide +kernel
theorem d_Sr_putFacts_2 : decode prog_5_method_6_code 2 = .ok (.iload_n 1, 1) := by decide +kernel
theorem d_Sr_putFacts_3 : decode prog_5_method_6_code 3 = .ok (.aload_n 0, 1) := by decide +kernel
theorem d_Sr_putFacts_4 : decode prog_5_method_6_code 4 = .ok (.getfield 76, 3) := by decide +kernel
theorem d_Sr_putFacts_7 : decode prog_5_method_6_code 7 = .ok (.if_icmp .ge 66, 3) := by decide +kernel
theorem d_Sr_putFacts_73 : decode prog_5_method_6_code 73 = .ok (.return_, 1) := by decide +kernel
theorem d_Wt_follow_0 : decode prog_7_method_5_code 0 = .ok (.sipush 400, 3) := by decide +kernel
theorem d_Wt_follow_3 : decode prog_7_method_5_code 3 = .ok (.istore_n 1, 1) := by decide +kernel
theorem d_Wt_follow_4 : decode prog_7_method_5_code 4 = .ok (.iload_n 1, 1) := by decide +kernel
theorem d_Wt_follow_5 : decode prog_7_method_5_code 5 = .ok (.ifCond .le 68, 3) := by decide +kernel
theorem d_Wt_follow_8 : decode prog_7_method_5_code 8 = .ok (.aload_n 0, 1) := by decide +kernel
theorem d_Wt_follow_9 : decode prog_7_method_5_code 9 = .ok (.getfield 15, 3) := by decide +kernel
theorem d_Wt_follow_12 : decode prog_7_method_5_code 12 = .ok (.getfield 56, 3) := by decide +kernel
theorem d_Wt_follow_15 : decode prog_7_method_5_code 15 = .ok (.aload_n 0, 1) := by decide +kernel
theorem d_Wt_follow_16 : decode prog_7_method_5_code 16 = .ok (.getfield 15, 3) := by decide +kernel
theorem d_Wt_follow_19 : decode prog_7_method_5_code 19 = .ok (.getfield 61, 3) := by decide +kernel
theorem d_Wt_follow_22 : decode prog_7_method_5_code 22 = .ok (.if_icmp .ge 51, 3) := by decide +kernel
theorem d_Wt_follow_73 : decode prog_7_method_5_code 73 = .ok (.iconst (-1), 1) := by decide +kernel
theorem d_Wt_follow_74 : decode prog_7_method_5_code 74 = .ok (.ireturn, 1) := by decide +kernel
theorem d_Tr_lowestUnknown_0 : decode prog_6_method_7_code 0 = .ok (.aload_n 0, 1) := by decide +kernel
theorem d_Tr_lowestUnknown_1 : decode prog_6_method_7_code 1 = .ok (.getfield 28, 3) := by decide +kernel
theorem d_Tr_lowestUnknown_4 : decode prog_6_method_7_code 4 = .ok (.iload_n 1, 1) := by decide +kernel
theorem d_Tr_lowestUnknown_5 : decode prog_6_method_7_code 5 = .ok (.if_icmp .gt 30, 3) := by decide +kernel
theorem d_Tr_lowestUnknown_35 : decode prog_6_method_7_code 35 = .ok (.aload_n 0, 1) := by decide +kernel
theorem d_Tr_lowestUnknown_36 : decode prog_6_method_7_code 36 = .ok (.getfield 28, 3) := by decide +kernel
theorem d_Tr_lowestUnknown_39 : decode prog_6_method_7_code 39 = .ok (.ireturn, 1) := by decide +kernel
theorem d_Sr_codeToTry_0 : decode prog_5_method_7_code 0 = .ok (.iconst 0, 1) := by decide +kernel
theorem d_Sr_codeToTry_1 : decode prog_5_method_7_code 1 = .ok (.istore 4, 2) := by decide +kernel
theorem d_Sr_codeToTry_3 : decode prog_5_method_7_code 3 = .ok (.iload 4, 2) := by decide +kernel
theorem d_Sr_codeToTry_5 : decode prog_5_method_7_code 5 = .ok (.iload_n 3, 1) := by decide +kernel
theorem d_Sr_codeToTry_6 : decode prog_5_method_7_code 6 = .ok (.if_icmp .ge 30, 3) := by decide +kernel
theorem d_Sr_codeToTry_36 : decode prog_5_method_7_code 36 = .ok (.aload_n 0, 1) := by decide +kernel
theorem d_Sr_codeToTry_37 : decode prog_5_method_7_code 37 = .ok (.getfield 15, 3) := by decide +kernel
theorem d_Sr_codeToTry_40 : decode prog_5_method_7_code 40 = .ok (.iload_n 1, 1) := by decide +kernel
theorem d_Sr_codeToTry_41 : decode prog_5_method_7_code 41 = .ok (.invokevirtual 115, 3) := by decide +kernel
theorem d_Sr_codeToTry_44 : decode prog_5_method_7_code 44 = .ok (.istore 4, 2) := by decide +kernel
theorem d_Sr_codeToTry_46 : decode prog_5_method_7_code 46 = .ok (.iload 4, 2) := by decide +kernel
theorem d_Sr_codeToTry_48 : decode prog_5_method_7_code 48 = .ok (.iload_n 1, 1) := by decide +kernel
theorem d_Sr_codeToTry_49 : decode prog_5_method_7_code 49 = .ok (.if_icmp .le 7, 3) := by decide +kernel
theorem d_Sr_codeToTry_52 : decode prog_5_method_7_code 52 = .ok (.iconst (-1), 1) := by decide +kernel
theorem d_Sr_codeToTry_53 : decode prog_5_method_7_code 53 = .ok (.goto 9, 3) := by decide +kernel
theorem d_Sr_codeToTry_62 : decode prog_5_method_7_code 62 = .ok (.ireturn, 1) := by decide +kernel
theorem d_Sr_findLeast_0 : decode prog_5_method_5_code 0 = .ok (.aload_n 0, 1) := by decide +kernel
theorem d_Sr_findLeast_1 : decode prog_5_method_5_code 1 = .ok (.getfield 15, 3) := by decide +kernel
theorem d_Sr_findLeast_4 : decode prog_5_method_5_code 4 = .ok (.invokevirtual 79, 3) := by decide +kernel
theorem d_Sr_findLeast_7 : decode prog_5_method_5_code 7 = .ok (.aload_n 0, 1) := by decide +kernel
theorem d_Sr_findLeast_8 : decode prog_5_method_5_code 8 = .ok (.invokevirtual 84, 3) := by decide +kernel
theorem d_Sr_findLeast_11 : decode prog_5_method_5_code 11 = .ok (.lconst 0, 1) := by decide +kernel
theorem d_Sr_findLeast_12 : decode prog_5_method_5_code 12 = .ok (.lstore 4, 2) := by decide +kernel
theorem d_Sr_findLeast_14 : decode prog_5_method_5_code 14 = .ok (.lload 4, 2) := by decide +kernel
theorem d_Sr_findLeast_16 : decode prog_5_method_5_code 16 = .ok (.ldc2_w 87, 3) := by decide +kernel
theorem d_Sr_findLeast_19 : decode prog_5_method_5_code 19 = .ok (.lcmp, 1) := by decide +kernel
theorem d_Sr_findLeast_20 : decode prog_5_method_5_code 20 = .ok (.ifCond .ge 85, 3) := by decide +kernel
theorem d_Sr_findLeast_23 : decode prog_5_method_5_code 23 = .ok (.aload_n 0, 1) := by decide +kernel
theorem d_Sr_findLeast_24 : decode prog_5_method_5_code 24 = .ok (.getfield 89, 3) := by decide +kernel
theorem d_Sr_findLeast_27 : decode prog_5_method_5_code 27 = .ok (.ifCond .ne 78, 3) := by decide +kernel
theorem d_Sr_findLeast_30 : decode prog_5_method_5_code 30 = .ok (.aload_n 0, 1) := by decide +kernel
theorem d_Sr_findLeast_31 : decode prog_5_method_5_code 31 = .ok (.getfield 24, 3) := by decide +kernel
theorem d_Sr_findLeast_34 : decode prog_5_method_5_code 34 = .ok (.invokevirtual 93, 3) := by decide +kernel
theorem d_Sr_findLeast_37 : decode prog_5_method_5_code 37 = .ok (.istore 6, 2) := by decide +kernel
theorem d_Sr_findLeast_39 : decode prog_5_method_5_code 39 = .ok (.iload 6, 2) := by decide +kernel
theorem d_Sr_findLeast_41 : decode prog_5_method_5_code 41 = .ok (.iconst (-1), 1) := by decide +kernel
theorem d_Sr_findLeast_42 : decode prog_5_method_5_code 42 = .ok (.if_icmp .eq 12, 3) := by decide +kernel
theorem d_Sr_findLeast_54 : decode prog_5_method_5_code 54 = .ok (.aload_n 0, 1) := by decide +kernel
theorem d_Sr_findLeast_55 : decode prog_5_method_5_code 55 = .ok (.iload_n 1, 1) := by decide +kernel
theorem d_Sr_findLeast_56 : decode prog_5_method_5_code 56 = .ok (.aload_n 2, 1) := by decide +kernel
theorem d_Sr_findLeast_57 : decode prog_5_method_5_code 57 = .ok (.iload_n 3, 1) := by decide +kernel
theorem d_Sr_findLeast_58 : decode prog_5_method_5_code 58 = .ok (.invokevirtual 100, 3) := by decide +kernel
theorem d_Sr_findLeast_61 : decode prog_5_method_5_code 61 = .ok (.istore 7, 2) := by decide +kernel
theorem d_Sr_findLeast_63 : decode prog_5_method_5_code 63 = .ok (.iload 7, 2) := by decide +kernel
theorem d_Sr_findLeast_65 : decode prog_5_method_5_code 65 = .ok (.iconst (-1), 1) := by decide +kernel
theorem d_Sr_findLeast_66 : decode prog_5_method_5_code 66 = .ok (.if_icmp .ne 5, 3) := by decide +kernel
theorem d_Sr_findLeast_69 : decode prog_5_method_5_code 69 = .ok (.iconst 1, 1) := by decide +kernel
theorem d_Sr_findLeast_70 : decode prog_5_method_5_code 70 = .ok (.ireturn, 1) := by decide +kernel
theorem d_Sr_tellWay_0 : decode prog_5_method_11_code 0 = .ok (.iconst 1, 1) := by decide +kernel
theorem d_Sr_tellWay_1 : decode prog_5_method_11_code 1 = .ok (.istore_n 3, 1) := by decide +kernel
theorem d_Sr_tellWay_2 : decode prog_5_method_11_code 2 = .ok (.iload_n 3, 1) := by decide +kernel
theorem d_Sr_tellWay_3 : decode prog_5_method_11_code 3 = .ok (.iload_n 2, 1) := by decide +kernel
theorem d_Sr_tellWay_4 : decode prog_5_method_11_code 4 = .ok (.if_icmp .gt 32, 3) := by decide +kernel
theorem d_Sr_tellWay_36 : decode prog_5_method_11_code 36 = .ok (.return_, 1) := by decide +kernel
set_option maxHeartbeats 4000000 in
set_option maxRecDepth 100000 in
/-- shrink(0) of an empty trail -/
theorem c_Tr_shrink_0 (l : Launch) (dC : Nat → ClassId) (dI : Nat → Nat → Nat) (t0 : Nat) (u0 : Nat) (u1 : Nat) (u2 : Nat) (u3 : Nat) (u4 : Nat) (sz : Nat) : Met l y_Tr_shrink (wq y_Tr_shrink prog_6_method_6_code 3 none) ({ frames := 1, cells := 0, slots := 0, locals := 15 }) (va_Pc [.ref t0, .int 0] (fun U => U.heap.size = sz ∧ va_P (dC, dI) vwCl [(t0, .inr (4, [.ref u0, .ref u1, .ref u2, .ref u3, .ref u4, .int 0, .int 0, .int 0, .int 1]))] U.heap ∧ va_K (dC, dI) vwCl [] U ∧ va_D (fun _ => True) [(t0, .inr (4, [.ref u0, .ref u1, .ref u2, .ref u3, .ref u4, .int 0, .int 0, .int 0, .int 1]))])) (va_Qv (fun _ : Unit => True) (fun (_ : Unit) t => va_P (dC, dI) vwCl [(t0, .inr (4, [.ref u0, .ref u1, .ref u2, .ref u3, .ref u4, .int 0, .int 0, .int 0, .int 1]))] t.heap ∧ va_K (dC, dI) vwCl [] t ∧ va_D (va_A [(t0, .inr (4, [.ref u0, .ref u1, .ref u2, .ref u3, .ref u4, .int 0, .int 0, .int 0, .int 1]))] sz) [(t0, .inr (4, [.ref u0, .ref u1, .ref u2, .ref u3, .ref u4, .int 0, .int 0, .int 0, .int 1]))]) (va_A [(t0, .inr (4, [.ref u0, .ref u1, .ref u2, .ref u3, .ref u4, .int 0, .int 0, .int 0, .int 1]))] sz)) 0 0 (va_A [(t0, .inr (4, [.ref u0, .ref u1, .ref u2, .ref u3, .ref u4, .int 0, .int 0, .int 0, .int 1]))] sz) := by
  refine Met.ofW (cc := prog_6_method_6_code) (maxL := 3) (ret := none) (by decide) rfl ?_
  intro p e s m args below meth c s₁ B hml hv
  obtain ⟨rfl, hsz, hP, hK, hD0⟩ := hv
  have hx := B.exec
  have hb := B.bytes
  have hr := B.returns
  have hw : ∀ w ∈ bg_W, w.before #[Value.ref t0, Value.int 0] s = true := fun w h => atoms_spec (ws := (wq y_Tr_shrink prog_6_method_6_code 3 none)) B.pre w (List.mem_cons_of_mem _ h)
  have hown : s.vm.findClass R_Tr = some m.cls := findClass_of_methodNamed B.named
  have hlocks := B.notSynchronized
  subst hsz
  have hD := hD0.self (sz := s.heap.size)
  generalize hAe : va_A [(t0, .inr (4, [.ref u0, .ref u1, .ref u2, .ref u3, .ref u4, .int 0, .int 0, .int 0, .int 1]))] s.heap.size = A at hD ⊢
  have hA : ∀ q : Nat, s.heap.size ≤ q → A q := fun q h => by rw [← hAe]; exact Or.inr h
  have hS : va_S A s.heap s.heap [] := va_S.rf
  have hP : va_P (dC, dI) vwCl [(t0, .inr (4, [.ref u0, .ref u1, .ref u2, .ref u3, .ref u4, .int 0, .int 0, .int 0, .int 1]))] s.heap := hP
  have hl := lv_entry ([.ref t0, .int 0]) (n := 3) (Nat.le_of_ble_eq_true rfl)
  rw [lg_entry_eq]
  generalize (lg_sl ([.ref t0, .int 0]) ++ List.replicate (3 - (lg_sl ([.ref t0, .int 0])).length) Slot.unset).toArray = ls at hl ⊢
  have hl : lv_has ls 3 [(0, .ref t0), (1, .int 0)] := hl
  obtain ⟨H, hH⟩ : ∃ H : Heap, H = s.heap := ⟨_, rfl⟩
  rw [← hH] at hP
  have hS : va_S A s.heap H [] := by rw [hH]; exact va_S.rf
  show W p l e _ s m _ below meth c s.heap [] 0 0 _ _
  rw [← hH]
  refine lv_aload_n hx hb d_Tr_shrink_0 rfl (lv_at hl 0 rfl) ?_
  refine va_get (D := (dC, dI)) (ci := 4) (v := .int 0) (C := R_Tr) (T := F_Tr) (N := 9) hx hb hw in_Tr hown hK hP 0 rfl rfl 5 (by decide) (hw (Cond.fieldLink "ClauseSearch$Trail" 35 "ClauseSearch$Trail" "size" "I") k_110) (fun _ h9 => h9) rfl d_Tr_shrink_1 ?_
  refine lv_iload_n hx hb d_Tr_shrink_4 rfl (lv_at hl 1 rfl) ?_
  refine lv_icmp_le (tgt := 63) hx hb d_Tr_shrink_5 (by decide) (fun c_5 => ?_) (fun c_5 => absurd c_5 (by decide))
  refine lv_aload_n hx hb d_Tr_shrink_63 rfl (lv_at hl 0 rfl) ?_
  refine lv_aload_n hx hb d_Tr_shrink_64 rfl (lv_at hl 0 rfl) ?_
  refine va_get (D := (dC, dI)) (ci := 4) (v := .int 0) (C := R_Tr) (T := F_Tr) (N := 9) hx hb hw in_Tr hown hK hP 0 rfl rfl 6 (by decide) (hw (Cond.fieldLink "ClauseSearch$Trail" 52 "ClauseSearch$Trail" "followed" "I") k_113) (fun _ h9 => h9) rfl d_Tr_shrink_65 ?_
  refine lv_aload_n hx hb d_Tr_shrink_68 rfl (lv_at hl 0 rfl) ?_
  refine va_get (D := (dC, dI)) (ci := 4) (v := .int 0) (C := R_Tr) (T := F_Tr) (N := 9) hx hb hw in_Tr hown hK hP 0 rfl rfl 5 (by decide) (hw (Cond.fieldLink "ClauseSearch$Trail" 35 "ClauseSearch$Trail" "size" "I") k_110) (fun _ h9 => h9) rfl d_Tr_shrink_69 ?_
  refine va_mmin hx hb (by rw [hml]; exact hl.1.symm) hown (hw (Cond.methodLink "ClauseSearch$Trail" 46 ⟨"java/lang/Math", "min", "(II)I"⟩) k_296) (hw (Cond.static ⟨"java/lang/Math", "min", "(II)I"⟩) k_297) (hw (Cond.initialized "java/lang/Math") k_44) (hw (Cond.code ⟨"java/lang/Math", "min", "(II)I"⟩ prog_15_method_69_code 2 (some .int)) k_298) (Nat.le_of_ble_eq_true rfl) (Nat.le_of_ble_eq_true rfl) (Nat.le_of_ble_eq_true rfl) (Nat.le_of_ble_eq_true rfl) d_Tr_shrink_72 ?_
  refine lv_topi (fun v_1 ev_1 => ?_)
  obtain rfl : v_1 = 0 := ev_1.trans (by decide)
  refine va_put (D := (dC, dI)) (ci := 4) (v := .int 0) (ty := .int) (C := R_Tr) (T := F_Tr) (N := 9) hx hb hw in_Tr t_Tr t_Tr_ok n_Tr hown hK hP hD hS 0 rfl rfl 6 (by decide) (hw (Cond.fieldLink "ClauseSearch$Trail" 52 "ClauseSearch$Trail" "followed" "I") k_113) (fun _ h9 => h9) rfl (by decide +kernel) rfl rfl (Nat.le_of_ble_eq_true rfl) d_Tr_shrink_75 (fun H locs hP hD hS => ?_)
  have hP : va_P (dC, dI) vwCl [(t0, .inr (4, [.ref u0, .ref u1, .ref u2, .ref u3, .ref u4, .int 0, .int 0, .int 0, .int 1]))] H := hP
  have hD : va_D A [(t0, .inr (4, [.ref u0, .ref u1, .ref u2, .ref u3, .ref u4, .int 0, .int 0, .int 0, .int 1]))] := hD
  refine W.widen (k := 0) (n := 0) (by decide) (by decide) ?_
  exact W.vret hx hb hr (fun t ht hW => ⟨⟨(), rfl, trivial, by rw [ht]; exact hP, va_K.moved hW.alike hK, hD⟩, hS.F ht⟩) hS.2.2 d_Tr_shrink_78

set_option maxHeartbeats 4000000 in
set_option maxRecDepth 100000 in
/-- clear() of an empty trail -/
theorem c_Tr_clear_0 (l : Launch) (dC : Nat → ClassId) (dI : Nat → Nat → Nat) (t0 : Nat) (u0 : Nat) (u1 : Nat) (u2 : Nat) (u3 : Nat) (u4 : Nat) (sz : Nat) : Met l y_Tr_clear (wq y_Tr_clear prog_6_method_5_code 1 none) ({ frames := 2, cells := 0, slots := 0, locals := 37 }) (va_Pc [.ref t0] (fun U => U.heap.size = sz ∧ va_P (dC, dI) vwCl [(t0, .inr (4, [.ref u0, .ref u1, .ref u2, .ref u3, .ref u4, .int 0, .int 0, .int 0, .int 1]))] U.heap ∧ va_K (dC, dI) vwCl [] U ∧ va_D (fun _ => True) [(t0, .inr (4, [.ref u0, .ref u1, .ref u2, .ref u3, .ref u4, .int 0, .int 0, .int 0, .int 1]))])) (va_Qv (fun _ : Unit => True) (fun (_ : Unit) t => va_P (dC, dI) vwCl [(t0, .inr (4, [.ref u0, .ref u1, .ref u2, .ref u3, .ref u4, .int 0, .int 0, .int 0, .int 1]))] t.heap ∧ va_K (dC, dI) vwCl [] t ∧ va_D (va_A [(t0, .inr (4, [.ref u0, .ref u1, .ref u2, .ref u3, .ref u4, .int 0, .int 0, .int 0, .int 1]))] sz) [(t0, .inr (4, [.ref u0, .ref u1, .ref u2, .ref u3, .ref u4, .int 0, .int 0, .int 0, .int 1]))]) (va_A [(t0, .inr (4, [.ref u0, .ref u1, .ref u2, .ref u3, .ref u4, .int 0, .int 0, .int 0, .int 1]))] sz)) 0 0 (va_A [(t0, .inr (4, [.ref u0, .ref u1, .ref u2, .ref u3, .ref u4, .int 0, .int 0, .int 0, .int 1]))] sz) := by
  refine Met.ofW (cc := prog_6_method_5_code) (maxL := 1) (ret := none) (by decide) rfl ?_
  intro p e s m args below meth c s₁ B hml hv
  obtain ⟨rfl, hsz, hP, hK, hD0⟩ := hv
  have hx := B.exec
  have hb := B.bytes
  have hr := B.returns
  have hw : ∀ w ∈ bg_W, w.before #[Value.ref t0] s = true := fun w h => atoms_spec (ws := (wq y_Tr_clear prog_6_method_5_code 1 none)) B.pre w (List.mem_cons_of_mem _ h)
  have hown : s.vm.findClass R_Tr = some m.cls := findClass_of_methodNamed B.named
  have hlocks := B.notSynchronized
  subst hsz
  have hD := hD0.self (sz := s.heap.size)
  generalize hAe : va_A [(t0, .inr (4, [.ref u0, .ref u1, .ref u2, .ref u3, .ref u4, .int 0, .int 0, .int 0, .int 1]))] s.heap.size = A at hD ⊢
  have hA : ∀ q : Nat, s.heap.size ≤ q → A q := fun q h => by rw [← hAe]; exact Or.inr h
  have hS : va_S A s.heap s.heap [] := va_S.rf
  have hP : va_P (dC, dI) vwCl [(t0, .inr (4, [.ref u0, .ref u1, .ref u2, .ref u3, .ref u4, .int 0, .int 0, .int 0, .int 1]))] s.heap := hP
  have hl := lv_entry ([.ref t0]) (n := 1) (Nat.le_of_ble_eq_true rfl)
  rw [lg_entry_eq]
  generalize (lg_sl ([.ref t0]) ++ List.replicate (1 - (lg_sl ([.ref t0])).length) Slot.unset).toArray = ls at hl ⊢
  have hl : lv_has ls 1 [(0, .ref t0)] := hl
  obtain ⟨H, hH⟩ : ∃ H : Heap, H = s.heap := ⟨_, rfl⟩
  rw [← hH] at hP
  have hS : va_S A s.heap H [] := by rw [hH]; exact va_S.rf
  show W p l e _ s m _ below meth c s.heap [] 0 0 _ _
  rw [← hH]
  refine lv_aload_n hx hb d_Tr_clear_0 rfl (lv_at hl 0 rfl) ?_
  refine lv_iconst (v := 0) hx hb d_Tr_clear_1 (by decide) ?_
  have hPc := hP.sub (ws' := [(t0, .inr (4, [.ref u0, .ref u1, .ref u2, .ref u3, .ref u4, .int 0, .int 0, .int 0, .int 1]))]) [0] rfl
  have hDc := hD.sub (ws' := [(t0, .inr (4, [.ref u0, .ref u1, .ref u2, .ref u3, .ref u4, .int 0, .int 0, .int 0, .int 1]))]) [0] (by decide) rfl
  have hKc := hK.sub (tys' := []) [] rfl
  have hFc := va_free (wc := [(t0, .inr (4, [.ref u0, .ref u1, .ref u2, .ref u3, .ref u4, .int 0, .int 0, .int 0, .int 1]))]) hD hS hA [0] rfl
  refine va_callv (va_runV (As := [.int 0]) (rest := []) ⟨hx, hb, hml, hown, hw⟩ (c_Tr_shrink_0 l dC dI t0 u0 u1 u2 u3 u4 H.size) (cb_V (C := R_Tr) 1 hw k_295 k_32 k_292 k_294 k_0 rfl rfl (by decide +kernel) ⟨Nat.le_of_ble_eq_true rfl, Nat.le_of_ble_eq_true rfl⟩) ⟨fun a U g mk q => by obtain ⟨q0, q1, qP, qK, qD⟩ := q; exact ⟨q0, q1, qP, va_K.moved (u := U) (U := U.calling g mk a) (Vm.Alike.refl U.vm) qK, qD⟩, va_recv hKc hPc (ci := 4) (q0 := 0) rfl rfl, fun U hU hW => ⟨rfl, by rw [hU], by rw [hU]; exact hPc, va_K.moved hW.alike hKc, hDc.weaken (fun _ _ _ _ => trivial)⟩⟩ rfl rfl hl.1 rfl (lv_room (Nat.le_of_ble_eq_true rfl)) d_Tr_clear_2 ⟨Nat.le_of_ble_eq_true rfl, Nat.le_of_ble_eq_true rfl⟩) hS (fun q _ h => hFc q h) hFc (fun u t H1 locs ht hvm hw9 hB hz1 hk1 hS => ?_)
  obtain ⟨hP1, hK1, hD1⟩ := hB
  rw [ht] at hP1
  have hK1 := va_K.moved hvm.symm hK1
  obtain ⟨hP, hD⟩ := va_join (wr := []) (w1 := [(t0, .inr (4, [.ref u0, .ref u1, .ref u2, .ref u3, .ref u4, .int 0, .int 0, .int 0, .int 1]))]) hP hD [0] [] rfl rfl (by decide) (by decide) hk1 hFc hP1 hD1
  generalize H1 = H at hP hS ⊢
  have hP : va_P (dC, dI) vwCl [(t0, .inr (4, [.ref u0, .ref u1, .ref u2, .ref u3, .ref u4, .int 0, .int 0, .int 0, .int 1]))] H := hP
  have hD : va_D A [(t0, .inr (4, [.ref u0, .ref u1, .ref u2, .ref u3, .ref u4, .int 0, .int 0, .int 0, .int 1]))] := hD
  refine W.widen (k := 0) (n := 0) (by decide) (by decide) ?_
  refine lv_aload_n hx hb d_Tr_clear_5 rfl (lv_at hl 0 rfl) ?_
  refine lv_iconst (v := 0) hx hb d_Tr_clear_6 (by decide) ?_
  refine va_put (D := (dC, dI)) (ci := 4) (v := .int 0) (ty := .int) (C := R_Tr) (T := F_Tr) (N := 9) hx hb hw in_Tr t_Tr t_Tr_ok n_Tr hown hK hP hD hS 0 rfl rfl 7 (by decide) (hw (Cond.fieldLink "ClauseSearch$Trail" 32 "ClauseSearch$Trail" "level" "I") k_114) (fun _ h9 => h9) rfl (by decide +kernel) rfl rfl (Nat.le_of_ble_eq_true rfl) d_Tr_clear_7 (fun H locs hP hD hS => ?_)
  have hP : va_P (dC, dI) vwCl [(t0, .inr (4, [.ref u0, .ref u1, .ref u2, .ref u3, .ref u4, .int 0, .int 0, .int 0, .int 1]))] H := hP
  have hD : va_D A [(t0, .inr (4, [.ref u0, .ref u1, .ref u2, .ref u3, .ref u4, .int 0, .int 0, .int 0, .int 1]))] := hD
  refine W.widen (k := 0) (n := 0) (by decide) (by decide) ?_
  exact W.vret hx hb hr (fun t ht hW => ⟨⟨(), rfl, trivial, by rw [ht]; exact hP, va_K.moved hW.alike hK, hD⟩, hS.F ht⟩) hS.2.2 d_Tr_clear_10

set_option maxHeartbeats 4000000 in
set_option maxRecDepth 100000 in
/-- putFacts() without facts -/
theorem c_Sr_putFacts_0 (l : Launch) (dC : Nat → ClassId) (dI : Nat → Nat → Nat) (s0 : Nat) (r0 : Nat) (t0 : Nat) (w0 : Nat) (l0 : Nat) (k0 : Nat) (v0 : Nat) (v1 : Nat) (v2 : Nat) (sz : Nat) : Met l y_Sr_putFacts (wq y_Sr_putFacts prog_5_method_6_code 2 none) ({ frames := 0, cells := 0, slots := 0, locals := 0 }) (va_Pc [.ref s0] (fun U => U.heap.size = sz ∧ va_P (dC, dI) vwCl [(s0, .inr (3, [.ref r0, .ref t0, .ref w0, .ref l0, .ref k0, .ref v0, .ref v1, .ref v2, .int 0, .int 0, .int 0, .int 0]))] U.heap ∧ va_K (dC, dI) vwCl [] U ∧ va_D (fun _ => True) [(s0, .inr (3, [.ref r0, .ref t0, .ref w0, .ref l0, .ref k0, .ref v0, .ref v1, .ref v2, .int 0, .int 0, .int 0, .int 0]))])) (va_Qv (fun _ : Unit => True) (fun (_ : Unit) t => va_P (dC, dI) vwCl [(s0, .inr (3, [.ref r0, .ref t0, .ref w0, .ref l0, .ref k0, .ref v0, .ref v1, .ref v2, .int 0, .int 0, .int 0, .int 0]))] t.heap ∧ va_K (dC, dI) vwCl [] t ∧ va_D (va_A [(s0, .inr (3, [.ref r0, .ref t0, .ref w0, .ref l0, .ref k0, .ref v0, .ref v1, .ref v2, .int 0, .int 0, .int 0, .int 0]))] sz) [(s0, .inr (3, [.ref r0, .ref t0, .ref w0, .ref l0, .ref k0, .ref v0, .ref v1, .ref v2, .int 0, .int 0, .int 0, .int 0]))]) (va_A [(s0, .inr (3, [.ref r0, .ref t0, .ref w0, .ref l0, .ref k0, .ref v0, .ref v1, .ref v2, .int 0, .int 0, .int 0, .int 0]))] sz)) 0 0 (va_A [(s0, .inr (3, [.ref r0, .ref t0, .ref w0, .ref l0, .ref k0, .ref v0, .ref v1, .ref v2, .int 0, .int 0, .int 0, .int 0]))] sz) := by
  refine Met.ofW (cc := prog_5_method_6_code) (maxL := 2) (ret := none) (by decide) rfl ?_
  intro p e s m args below meth c s₁ B hml hv
  obtain ⟨rfl, hsz, hP, hK, hD0⟩ := hv
  have hx := B.exec
  have hb := B.bytes
  have hr := B.returns
  have hw : ∀ w ∈ bg_W, w.before #[Value.ref s0] s = true := fun w h => atoms_spec (ws := (wq y_Sr_putFacts prog_5_method_6_code 2 none)) B.pre w (List.mem_cons_of_mem _ h)
  have hown : s.vm.findClass R_Sr = some m.cls := findClass_of_methodNamed B.named
  have hlocks := B.notSynchronized
  subst hsz
  have hD := hD0.self (sz := s.heap.size)
  generalize hAe : va_A [(s0, .inr (3, [.ref r0, .ref t0, .ref w0, .ref l0, .ref k0, .ref v0, .ref v1, .ref v2, .int 0, .int 0, .int 0, .int 0]))] s.heap.size = A at hD ⊢
  have hA : ∀ q : Nat, s.heap.size ≤ q → A q := fun q h => by rw [← hAe]; exact Or.inr h
  have hS : va_S A s.heap s.heap [] := va_S.rf
  have hP : va_P (dC, dI) vwCl [(s0, .inr (3, [.ref r0, .ref t0, .ref w0, .ref l0, .ref k0, .ref v0, .ref v1, .ref v2, .int 0, .int 0, .int 0, .int 0]))] s.heap := hP
  have hl := lv_entry ([.ref s0]) (n := 2) (Nat.le_of_ble_eq_true rfl)
  rw [lg_entry_eq]
  generalize (lg_sl ([.ref s0]) ++ List.replicate (2 - (lg_sl ([.ref s0])).length) Slot.unset).toArray = ls at hl ⊢
  have hl : lv_has ls 2 [(0, .ref s0)] := hl
  obtain ⟨H, hH⟩ : ∃ H : Heap, H = s.heap := ⟨_, rfl⟩
  rw [← hH] at hP
  have hS : va_S A s.heap H [] := by rw [hH]; exact va_S.rf
  show W p l e _ s m _ below meth c s.heap [] 0 0 _ _
  rw [← hH]
  refine lv_iconst (v := 0) hx hb d_Sr_putFacts_0 (by decide) ?_
  refine lv_istore_n (lv' := [(1, .int 0), (0, .ref s0)]) hx hb d_Sr_putFacts_1 rfl hl (by decide) rfl (fun ls hl => ?_)
  refine lv_iload_n hx hb d_Sr_putFacts_2 rfl (lv_at hl 0 rfl) ?_
  refine lv_aload_n hx hb d_Sr_putFacts_3 rfl (lv_at hl 1 rfl) ?_
  refine va_get (D := (dC, dI)) (ci := 3) (v := .int 0) (C := R_Sr) (T := F_Sr) (N := 12) hx hb hw in_Sr hown hK hP 0 rfl rfl 8 (by decide) (hw (Cond.fieldLink "ClauseSearch$Search" 76 "ClauseSearch$Search" "factCount" "I") k_225) (fun _ h9 => h9) rfl d_Sr_putFacts_4 ?_
  refine lv_icmp_ge (tgt := 73) hx hb d_Sr_putFacts_7 (by decide) (fun c_7 => ?_) (fun c_7 => absurd c_7 (by decide))
  refine W.widen (k := 0) (n := 0) (by decide) (by decide) ?_
  exact W.vret hx hb hr (fun t ht hW => ⟨⟨(), rfl, trivial, by rw [ht]; exact hP, va_K.moved hW.alike hK, hD⟩, hS.F ht⟩) hS.2.2 d_Sr_putFacts_73

set_option maxHeartbeats 4000000 in
set_option maxRecDepth 100000 in
/-- follow() of an empty trail -/
theorem c_Wt_follow_0 (l : Launch) (dC : Nat → ClassId) (dI : Nat → Nat → Nat) (w0 : Nat) (r0 : Nat) (t0 : Nat) (y0 : Nat) (y1 : Nat) (u0 : Nat) (u1 : Nat) (u2 : Nat) (u3 : Nat) (u4 : Nat) (sz : Nat) : Met l y_Wt_follow (wq y_Wt_follow prog_7_method_5_code 3 (some .int)) ({ frames := 0, cells := 0, slots := 0, locals := 0 }) (va_Pc [.ref w0] (fun U => U.heap.size = sz ∧ va_P (dC, dI) vwCl [(w0, .inr (5, [.ref r0, .ref t0, .ref y0, .ref y1])), (t0, .inr (4, [.ref u0, .ref u1, .ref u2, .ref u3, .ref u4, .int 0, .int 0, .int 0, .int 1]))] U.heap ∧ va_K (dC, dI) vwCl [] U ∧ va_D (fun _ => True) [(w0, .inr (5, [.ref r0, .ref t0, .ref y0, .ref y1])), (t0, .inr (4, [.ref u0, .ref u1, .ref u2, .ref u3, .ref u4, .int 0, .int 0, .int 0, .int 1]))])) (va_Qi (fun (r : Int32) (_ : Unit) => r = -1) (fun (_ : Unit) t => va_P (dC, dI) vwCl [(w0, .inr (5, [.ref r0, .ref t0, .ref y0, .ref y1])), (t0, .inr (4, [.ref u0, .ref u1, .ref u2, .ref u3, .ref u4, .int 0, .int 0, .int 0, .int 1]))] t.heap ∧ va_K (dC, dI) vwCl [] t ∧ va_D (va_A [(w0, .inr (5, [.ref r0, .ref t0, .ref y0, .ref y1])), (t0, .inr (4, [.ref u0, .ref u1, .ref u2, .ref u3, .ref u4, .int 0, .int 0, .int 0, .int 1]))] sz) [(w0, .inr (5, [.ref r0, .ref t0, .ref y0, .ref y1])), (t0, .inr (4, [.ref u0, .ref u1, .ref u2, .ref u3, .ref u4, .int 0, .int 0, .int 0, .int 1]))]) (va_A [(w0, .inr (5, [.ref r0, .ref t0, .ref y0, .ref y1])), (t0, .inr (4, [.ref u0, .ref u1, .ref u2, .ref u3, .ref u4, .int 0, .int 0, .int 0, .int 1]))] sz)) 0 0 (va_A [(w0, .inr (5, [.ref r0, .ref t0, .ref y0, .ref y1])), (t0, .inr (4, [.ref u0, .ref u1, .ref u2, .ref u3, .ref u4, .int 0, .int 0, .int 0, .int 1]))] sz) := by
  refine Met.ofW (cc := prog_7_method_5_code) (maxL := 3) (ret := (some .int)) (by decide) rfl ?_
  intro p e s m args below meth c s₁ B hml hv
  obtain ⟨rfl, hsz, hP, hK, hD0⟩ := hv
  have hx := B.exec
  have hb := B.bytes
  have hr := B.returns
  have hw : ∀ w ∈ bg_W, w.before #[Value.ref w0] s = true := fun w h => atoms_spec (ws := (wq y_Wt_follow prog_7_method_5_code 3 (some .int))) B.pre w (List.mem_cons_of_mem _ h)
  have hown : s.vm.findClass R_Wt = some m.cls := findClass_of_methodNamed B.named
  have hlocks := B.notSynchronized
  subst hsz
  have hD := hD0.self (sz := s.heap.size)
  generalize hAe : va_A [(w0, .inr (5, [.ref r0, .ref t0, .ref y0, .ref y1])), (t0, .inr (4, [.ref u0, .ref u1, .ref u2, .ref u3, .ref u4, .int 0, .int 0, .int 0, .int 1]))] s.heap.size = A at hD ⊢
  have hA : ∀ q : Nat, s.heap.size ≤ q → A q := fun q h => by rw [← hAe]; exact Or.inr h
  have hS : va_S A s.heap s.heap [] := va_S.rf
  have hP : va_P (dC, dI) vwCl [(w0, .inr (5, [.ref r0, .ref t0, .ref y0, .ref y1])), (t0, .inr (4, [.ref u0, .ref u1, .ref u2, .ref u3, .ref u4, .int 0, .int 0, .int 0, .int 1]))] s.heap := hP
  have hl := lv_entry ([.ref w0]) (n := 3) (Nat.le_of_ble_eq_true rfl)
  rw [lg_entry_eq]
  generalize (lg_sl ([.ref w0]) ++ List.replicate (3 - (lg_sl ([.ref w0])).length) Slot.unset).toArray = ls at hl ⊢
  have hl : lv_has ls 3 [(0, .ref w0)] := hl
  obtain ⟨H, hH⟩ : ∃ H : Heap, H = s.heap := ⟨_, rfl⟩
  rw [← hH] at hP
  have hS : va_S A s.heap H [] := by rw [hH]; exact va_S.rf
  show W p l e _ s m _ below meth c s.heap [] 0 0 _ _
  rw [← hH]
  refine lv_sipush (v := 400) hx hb d_Wt_follow_0 (by decide) ?_
  refine lv_istore_n (lv' := [(1, .int 400), (0, .ref w0)]) hx hb d_Wt_follow_3 rfl hl (by decide) rfl (fun ls hl => ?_)
  refine lv_iload_n hx hb d_Wt_follow_4 rfl (lv_at hl 0 rfl) ?_
  refine lv_if_le (tgt := 73) hx hb d_Wt_follow_5 (by decide) (fun c_5 => absurd c_5 (by decide)) (fun c_5 => ?_)
  refine lv_aload_n hx hb d_Wt_follow_8 rfl (lv_at hl 1 rfl) ?_
  refine va_get (D := (dC, dI)) (ci := 5) (v := .ref t0) (C := R_Wt) (T := F_Wt) (N := 4) hx hb hw in_Wt hown hK hP 0 rfl rfl 1 (by decide) (hw (Cond.fieldLink "ClauseSearch$Watch" 15 "ClauseSearch$Watch" "trail" "LClauseSearch$Trail;") k_152) (fun _ h9 => h9) rfl d_Wt_follow_9 ?_
  refine va_getN (D := (dC, dI)) (ci := 4) (v := .int 0) (C := R_Tr) (T := F_Tr) (N := 9) hx hb hw in_Tr hown hK hP 1 rfl rfl 6 (by decide) (hw (Cond.fieldLinkNest "ClauseSearch$Watch" 56 "ClauseSearch$Trail" "followed" "I" "ClauseSearch") k_112) (fun _ h9 => h9) rfl d_Wt_follow_12 ?_
  refine lv_aload_n hx hb d_Wt_follow_15 rfl (lv_at hl 1 rfl) ?_
  refine va_get (D := (dC, dI)) (ci := 5) (v := .ref t0) (C := R_Wt) (T := F_Wt) (N := 4) hx hb hw in_Wt hown hK hP 0 rfl rfl 1 (by decide) (hw (Cond.fieldLink "ClauseSearch$Watch" 15 "ClauseSearch$Watch" "trail" "LClauseSearch$Trail;") k_152) (fun _ h9 => h9) rfl d_Wt_follow_16 ?_
  refine va_getN (D := (dC, dI)) (ci := 4) (v := .int 0) (C := R_Tr) (T := F_Tr) (N := 9) hx hb hw in_Tr hown hK hP 1 rfl rfl 5 (by decide) (hw (Cond.fieldLinkNest "ClauseSearch$Watch" 61 "ClauseSearch$Trail" "size" "I" "ClauseSearch") k_111) (fun _ h9 => h9) rfl d_Wt_follow_19 ?_
  refine lv_icmp_ge (tgt := 73) hx hb d_Wt_follow_22 (by decide) (fun c_22 => ?_) (fun c_22 => absurd c_22 (by decide))
  refine lv_iconst (v := (-1)) hx hb d_Wt_follow_73 (by decide) ?_
  refine W.widen (k := 0) (n := 0) (by decide) (by decide) ?_
  exact W.iret (v := (-1)) hx hb hr (fun t ht hW => ⟨⟨(-1), (), rfl, rfl, by rw [ht]; exact hP, va_K.moved hW.alike hK, hD⟩, hS.F ht⟩) hS.2.2 d_Wt_follow_74

set_option maxHeartbeats 4000000 in
set_option maxRecDepth 100000 in
/-- lowestUnknown(0) -/
theorem c_Tr_lowest_0 (l : Launch) (dC : Nat → ClassId) (dI : Nat → Nat → Nat) (t0 : Nat) (u0 : Nat) (u1 : Nat) (u2 : Nat) (u3 : Nat) (u4 : Nat) (sz : Nat) : Met l y_Tr_lowestUnknown (wq y_Tr_lowestUnknown prog_6_method_7_code 2 (some .int)) ({ frames := 0, cells := 0, slots := 0, locals := 0 }) (va_Pc [.ref t0, .int 0] (fun U => U.heap.size = sz ∧ va_P (dC, dI) vwCl [(t0, .inr (4, [.ref u0, .ref u1, .ref u2, .ref u3, .ref u4, .int 0, .int 0, .int 0, .int 1]))] U.heap ∧ va_K (dC, dI) vwCl [] U ∧ va_D (fun _ => True) [(t0, .inr (4, [.ref u0, .ref u1, .ref u2, .ref u3, .ref u4, .int 0, .int 0, .int 0, .int 1]))])) (va_Qi (fun (r : Int32) (_ : Unit) => r = 1) (fun (_ : Unit) t => va_P (dC, dI) vwCl [(t0, .inr (4, [.ref u0, .ref u1, .ref u2, .ref u3, .ref u4, .int 0, .int 0, .int 0, .int 1]))] t.heap ∧ va_K (dC, dI) vwCl [] t ∧ va_D (va_A [(t0, .inr (4, [.ref u0, .ref u1, .ref u2, .ref u3, .ref u4, .int 0, .int 0, .int 0, .int 1]))] sz) [(t0, .inr (4, [.ref u0, .ref u1, .ref u2, .ref u3, .ref u4, .int 0, .int 0, .int 0, .int 1]))]) (va_A [(t0, .inr (4, [.ref u0, .ref u1, .ref u2, .ref u3, .ref u4, .int 0, .int 0, .int 0, .int 1]))] sz)) 0 0 (va_A [(t0, .inr (4, [.ref u0, .ref u1, .ref u2, .ref u3, .ref u4, .int 0, .int 0, .int 0, .int 1]))] sz) := by
  refine Met.ofW (cc := prog_6_method_7_code) (maxL := 2) (ret := (some .int)) (by decide) rfl ?_
  intro p e s m args below meth c s₁ B hml hv
  obtain ⟨rfl, hsz, hP, hK, hD0⟩ := hv
  have hx := B.exec
  have hb := B.bytes
  have hr := B.returns
  have hw : ∀ w ∈ bg_W, w.before #[Value.ref t0, Value.int 0] s = true := fun w h => atoms_spec (ws := (wq y_Tr_lowestUnknown prog_6_method_7_code 2 (some .int))) B.pre w (List.mem_cons_of_mem _ h)
  have hown : s.vm.findClass R_Tr = some m.cls := findClass_of_methodNamed B.named
  have hlocks := B.notSynchronized
  subst hsz
  have hD := hD0.self (sz := s.heap.size)
  generalize hAe : va_A [(t0, .inr (4, [.ref u0, .ref u1, .ref u2, .ref u3, .ref u4, .int 0, .int 0, .int 0, .int 1]))] s.heap.size = A at hD ⊢
  have hA : ∀ q : Nat, s.heap.size ≤ q → A q := fun q h => by rw [← hAe]; exact Or.inr h
  have hS : va_S A s.heap s.heap [] := va_S.rf
  have hP : va_P (dC, dI) vwCl [(t0, .inr (4, [.ref u0, .ref u1, .ref u2, .ref u3, .ref u4, .int 0, .int 0, .int 0, .int 1]))] s.heap := hP
  have hl := lv_entry ([.ref t0, .int 0]) (n := 2) (Nat.le_of_ble_eq_true rfl)
  rw [lg_entry_eq]
  generalize (lg_sl ([.ref t0, .int 0]) ++ List.replicate (2 - (lg_sl ([.ref t0, .int 0])).length) Slot.unset).toArray = ls at hl ⊢
  have hl : lv_has ls 2 [(0, .ref t0), (1, .int 0)] := hl
  obtain ⟨H, hH⟩ : ∃ H : Heap, H = s.heap := ⟨_, rfl⟩
  rw [← hH] at hP
  have hS : va_S A s.heap H [] := by rw [hH]; exact va_S.rf
  show W p l e _ s m _ below meth c s.heap [] 0 0 _ _
  rw [← hH]
  refine lv_aload_n hx hb d_Tr_lowestUnknown_0 rfl (lv_at hl 0 rfl) ?_
  refine va_get (D := (dC, dI)) (ci := 4) (v := .int 1) (C := R_Tr) (T := F_Tr) (N := 9) hx hb hw in_Tr hown hK hP 0 rfl rfl 8 (by decide) (hw (Cond.fieldLink "ClauseSearch$Trail" 28 "ClauseSearch$Trail" "lowest" "I") k_117) (fun _ h9 => h9) rfl d_Tr_lowestUnknown_1 ?_
  refine lv_iload_n hx hb d_Tr_lowestUnknown_4 rfl (lv_at hl 1 rfl) ?_
  refine lv_icmp_gt (tgt := 35) hx hb d_Tr_lowestUnknown_5 (by decide) (fun c_5 => ?_) (fun c_5 => absurd c_5 (by decide))
  refine lv_aload_n hx hb d_Tr_lowestUnknown_35 rfl (lv_at hl 0 rfl) ?_
  refine va_get (D := (dC, dI)) (ci := 4) (v := .int 1) (C := R_Tr) (T := F_Tr) (N := 9) hx hb hw in_Tr hown hK hP 0 rfl rfl 8 (by decide) (hw (Cond.fieldLink "ClauseSearch$Trail" 28 "ClauseSearch$Trail" "lowest" "I") k_117) (fun _ h9 => h9) rfl d_Tr_lowestUnknown_36 ?_
  refine W.widen (k := 0) (n := 0) (by decide) (by decide) ?_
  exact W.iret (v := 1) hx hb hr (fun t ht hW => ⟨⟨1, (), rfl, rfl, by rw [ht]; exact hP, va_K.moved hW.alike hK, hD⟩, hS.F ht⟩) hS.2.2 d_Tr_lowestUnknown_39

set_option maxHeartbeats 4000000 in
set_option maxRecDepth 100000 in
/-- codeToTry without variables -/
theorem c_Sr_codeToTry_0 (l : Launch) (dC : Nat → ClassId) (dI : Nat → Nat → Nat) (s0 : Nat) (r0 : Nat) (t0 : Nat) (w0 : Nat) (l0 : Nat) (k0 : Nat) (v0 : Nat) (v1 : Nat) (v2 : Nat) (u0 : Nat) (u1 : Nat) (u2 : Nat) (u3 : Nat) (u4 : Nat) (b0 : Nat) (sz : Nat) : Met l y_Sr_codeToTry (wq y_Sr_codeToTry prog_5_method_7_code 5 (some .int)) ({ frames := 1, cells := 0, slots := 0, locals := 21 }) (va_Pc [.ref s0, .int 0, .ref b0, .int 0] (fun U => U.heap.size = sz ∧ va_P (dC, dI) vwCl [(s0, .inr (3, [.ref r0, .ref t0, .ref w0, .ref l0, .ref k0, .ref v0, .ref v1, .ref v2, .int 0, .int 0, .int 0, .int 0])), (t0, .inr (4, [.ref u0, .ref u1, .ref u2, .ref u3, .ref u4, .int 0, .int 0, .int 0, .int 1]))] U.heap ∧ va_K (dC, dI) vwCl [] U ∧ va_D (fun _ => True) [(s0, .inr (3, [.ref r0, .ref t0, .ref w0, .ref l0, .ref k0, .ref v0, .ref v1, .ref v2, .int 0, .int 0, .int 0, .int 0])), (t0, .inr (4, [.ref u0, .ref u1, .ref u2, .ref u3, .ref u4, .int 0, .int 0, .int 0, .int 1]))])) (va_Qi (fun (r : Int32) (_ : Unit) => r = -1) (fun (_ : Unit) t => va_P (dC, dI) vwCl [(s0, .inr (3, [.ref r0, .ref t0, .ref w0, .ref l0, .ref k0, .ref v0, .ref v1, .ref v2, .int 0, .int 0, .int 0, .int 0])), (t0, .inr (4, [.ref u0, .ref u1, .ref u2, .ref u3, .ref u4, .int 0, .int 0, .int 0, .int 1]))] t.heap ∧ va_K (dC, dI) vwCl [] t ∧ va_D (va_A [(s0, .inr (3, [.ref r0, .ref t0, .ref w0, .ref l0, .ref k0, .ref v0, .ref v1, .ref v2, .int 0, .int 0, .int 0, .int 0])), (t0, .inr (4, [.ref u0, .ref u1, .ref u2, .ref u3, .ref u4, .int 0, .int 0, .int 0, .int 1]))] sz) [(s0, .inr (3, [.ref r0, .ref t0, .ref w0, .ref l0, .ref k0, .ref v0, .ref v1, .ref v2, .int 0, .int 0, .int 0, .int 0])), (t0, .inr (4, [.ref u0, .ref u1, .ref u2, .ref u3, .ref u4, .int 0, .int 0, .int 0, .int 1]))]) (va_A [(s0, .inr (3, [.ref r0, .ref t0, .ref w0, .ref l0, .ref k0, .ref v0, .ref v1, .ref v2, .int 0, .int 0, .int 0, .int 0])), (t0, .inr (4, [.ref u0, .ref u1, .ref u2, .ref u3, .ref u4, .int 0, .int 0, .int 0, .int 1]))] sz)) 0 0 (va_A [(s0, .inr (3, [.ref r0, .ref t0, .ref w0, .ref l0, .ref k0, .ref v0, .ref v1, .ref v2, .int 0, .int 0, .int 0, .int 0])), (t0, .inr (4, [.ref u0, .ref u1, .ref u2, .ref u3, .ref u4, .int 0, .int 0, .int 0, .int 1]))] sz) := by
  refine Met.ofW (cc := prog_5_method_7_code) (maxL := 5) (ret := (some .int)) (by decide) rfl ?_
  intro p e s m args below meth c s₁ B hml hv
  obtain ⟨rfl, hsz, hP, hK, hD0⟩ := hv
  have hx := B.exec
  have hb := B.bytes
  have hr := B.returns
  have hw : ∀ w ∈ bg_W, w.before #[Value.ref s0, Value.int 0, Value.ref b0, Value.int 0] s = true := fun w h => atoms_spec (ws := (wq y_Sr_codeToTry prog_5_method_7_code 5 (some .int))) B.pre w (List.mem_cons_of_mem _ h)
  have hown : s.vm.findClass R_Sr = some m.cls := findClass_of_methodNamed B.named
  have hlocks := B.notSynchronized
  subst hsz
  have hD := hD0.self (sz := s.heap.size)
  generalize hAe : va_A [(s0, .inr (3, [.ref r0, .ref t0, .ref w0, .ref l0, .ref k0, .ref v0, .ref v1, .ref v2, .int 0, .int 0, .int 0, .int 0])), (t0, .inr (4, [.ref u0, .ref u1, .ref u2, .ref u3, .ref u4, .int 0, .int 0, .int 0, .int 1]))] s.heap.size = A at hD ⊢
  have hA : ∀ q : Nat, s.heap.size ≤ q → A q := fun q h => by rw [← hAe]; exact Or.inr h
  have hS : va_S A s.heap s.heap [] := va_S.rf
  have hP : va_P (dC, dI) vwCl [(s0, .inr (3, [.ref r0, .ref t0, .ref w0, .ref l0, .ref k0, .ref v0, .ref v1, .ref v2, .int 0, .int 0, .int 0, .int 0])), (t0, .inr (4, [.ref u0, .ref u1, .ref u2, .ref u3, .ref u4, .int 0, .int 0, .int 0, .int 1]))] s.heap := hP
  have hl := lv_entry ([.ref s0, .int 0, .ref b0, .int 0]) (n := 5) (Nat.le_of_ble_eq_true rfl)
  rw [lg_entry_eq]
  generalize (lg_sl ([.ref s0, .int 0, .ref b0, .int 0]) ++ List.replicate (5 - (lg_sl ([.ref s0, .int 0, .ref b0, .int 0])).length) Slot.unset).toArray = ls at hl ⊢
  have hl : lv_has ls 5 [(0, .ref s0), (1, .int 0), (2, .ref b0), (3, .int 0)] := hl
  obtain ⟨H, hH⟩ : ∃ H : Heap, H = s.heap := ⟨_, rfl⟩
  rw [← hH] at hP
  have hS : va_S A s.heap H [] := by rw [hH]; exact va_S.rf
  show W p l e _ s m _ below meth c s.heap [] 0 0 _ _
  rw [← hH]
  refine lv_iconst (v := 0) hx hb d_Sr_codeToTry_0 (by decide) ?_
  refine lv_istore (lv' := [(4, .int 0), (0, .ref s0), (1, .int 0), (2, .ref b0), (3, .int 0)]) hx hb d_Sr_codeToTry_1 hl (by decide) rfl (fun ls hl => ?_)
  refine lv_iload hx hb d_Sr_codeToTry_3 (lv_at hl 0 rfl) ?_
  refine lv_iload_n hx hb d_Sr_codeToTry_5 rfl (lv_at hl 4 rfl) ?_
  refine lv_icmp_ge (tgt := 36) hx hb d_Sr_codeToTry_6 (by decide) (fun c_6 => ?_) (fun c_6 => absurd c_6 (by decide))
  refine lv_aload_n hx hb d_Sr_codeToTry_36 rfl (lv_at hl 1 rfl) ?_
  refine va_get (D := (dC, dI)) (ci := 3) (v := .ref t0) (C := R_Sr) (T := F_Sr) (N := 12) hx hb hw in_Sr hown hK hP 0 rfl rfl 1 (by decide) (hw (Cond.fieldLink "ClauseSearch$Search" 15 "ClauseSearch$Search" "trail" "LClauseSearch$Trail;") k_218) (fun _ h9 => h9) rfl d_Sr_codeToTry_37 ?_
  refine lv_iload_n hx hb d_Sr_codeToTry_40 rfl (lv_at hl 2 rfl) ?_
  have hPc := hP.sub (ws' := [(t0, .inr (4, [.ref u0, .ref u1, .ref u2, .ref u3, .ref u4, .int 0, .int 0, .int 0, .int 1]))]) [1] rfl
  have hDc := hD.sub (ws' := [(t0, .inr (4, [.ref u0, .ref u1, .ref u2, .ref u3, .ref u4, .int 0, .int 0, .int 0, .int 1]))]) [1] (by decide) rfl
  have hKc := hK.sub (tys' := []) [] rfl
  have hFc := va_free (wc := [(t0, .inr (4, [.ref u0, .ref u1, .ref u2, .ref u3, .ref u4, .int 0, .int 0, .int 0, .int 1]))]) hD hS hA [1] rfl
  refine va_calli (va_runV (As := [.int 0]) (rest := []) ⟨hx, hb, hml, hown, hw⟩ (c_Tr_lowest_0 l dC dI t0 u0 u1 u2 u3 u4 H.size) (cb_V (C := R_Tr) 1 hw k_419 k_32 k_416 k_417 k_418 rfl rfl (by decide +kernel) ⟨Nat.le_of_ble_eq_true rfl, Nat.le_of_ble_eq_true rfl⟩) ⟨fun a U g mk q => by obtain ⟨q0, q1, qP, qK, qD⟩ := q; exact ⟨q0, q1, qP, va_K.moved (u := U) (U := U.calling g mk a) (Vm.Alike.refl U.vm) qK, qD⟩, va_recv hKc hPc (ci := 4) (q0 := 0) rfl rfl, fun U hU hW => ⟨rfl, by rw [hU], by rw [hU]; exact hPc, va_K.moved hW.alike hKc, hDc.weaken (fun _ _ _ _ => trivial)⟩⟩ rfl rfl hl.1 rfl (lv_room (Nat.le_of_ble_eq_true rfl)) d_Sr_codeToTry_41 ⟨Nat.le_of_ble_eq_true rfl, Nat.le_of_ble_eq_true rfl⟩) hS (fun q _ h => hFc q h) hFc (fun r_1 u t H1 locs ht hvm hw9 hB hz1 hk1 hS => ?_)
  obtain ⟨hP1, hK1, hD1⟩ := hB
  rw [ht] at hP1
  have hK1 := va_K.moved hvm.symm hK1
  obtain ⟨hP, hD⟩ := va_join (wr := [(s0, .inr (3, [.ref r0, .ref t0, .ref w0, .ref l0, .ref k0, .ref v0, .ref v1, .ref v2, .int 0, .int 0, .int 0, .int 0]))]) (w1 := [(t0, .inr (4, [.ref u0, .ref u1, .ref u2, .ref u3, .ref u4, .int 0, .int 0, .int 0, .int 1]))]) hP hD [1] [0] rfl rfl (by decide) (by decide) hk1 hFc hP1 hD1
  generalize H1 = H at hP hS ⊢
  have hP : va_P (dC, dI) vwCl [(s0, .inr (3, [.ref r0, .ref t0, .ref w0, .ref l0, .ref k0, .ref v0, .ref v1, .ref v2, .int 0, .int 0, .int 0, .int 0])), (t0, .inr (4, [.ref u0, .ref u1, .ref u2, .ref u3, .ref u4, .int 0, .int 0, .int 0, .int 1]))] H := hP
  have hD : va_D A [(s0, .inr (3, [.ref r0, .ref t0, .ref w0, .ref l0, .ref k0, .ref v0, .ref v1, .ref v2, .int 0, .int 0, .int 0, .int 0])), (t0, .inr (4, [.ref u0, .ref u1, .ref u2, .ref u3, .ref u4, .int 0, .int 0, .int 0, .int 1]))] := hD
  refine W.widen (k := 0) (n := 0) (by decide) (by decide) ?_
  have hw9 : r_1 = 1 := hw9
  subst hw9
  refine lv_istore (lv' := [(4, .int 1), (0, .ref s0), (1, .int 0), (2, .ref b0), (3, .int 0)]) hx hb d_Sr_codeToTry_44 hl (by decide) rfl (fun ls hl => ?_)
  refine lv_iload hx hb d_Sr_codeToTry_46 (lv_at hl 0 rfl) ?_
  refine lv_iload_n hx hb d_Sr_codeToTry_48 rfl (lv_at hl 2 rfl) ?_
  refine lv_icmp_le (tgt := 56) hx hb d_Sr_codeToTry_49 (by decide) (fun c_49 => absurd c_49 (by decide)) (fun c_49 => ?_)
  refine lv_iconst (v := (-1)) hx hb d_Sr_codeToTry_52 (by decide) ?_
  refine lv_goto (tgt := 62) hx hb d_Sr_codeToTry_53 (by decide) ?_
  refine W.widen (k := 0) (n := 0) (by decide) (by decide) ?_
  exact W.iret (v := (-1)) hx hb hr (fun t ht hW => ⟨⟨(-1), (), rfl, rfl, by rw [ht]; exact hP, va_K.moved hW.alike hK, hD⟩, hS.F ht⟩) hS.2.2 d_Sr_codeToTry_62

set_option maxHeartbeats 4000000 in
set_option maxRecDepth 100000 in
/-- findLeast without variables -/
theorem c_Sr_findLeast_0 (l : Launch) (dC : Nat → ClassId) (dI : Nat → Nat → Nat) (s0 : Nat) (r0 : Nat) (t0 : Nat) (w0 : Nat) (l0 : Nat) (k0 : Nat) (v0 : Nat) (v1 : Nat) (v2 : Nat) (u0 : Nat) (u1 : Nat) (u2 : Nat) (u3 : Nat) (u4 : Nat) (y0 : Nat) (y1 : Nat) (b0 : Nat) (sz : Nat) : Met l y_Sr_findLeast (wq y_Sr_findLeast prog_5_method_5_code 8 (some .boolean)) ({ frames := 3, cells := 0, slots := 0, locals := 57 }) (va_Pc [.ref s0, .int 0, .ref b0, .int 0] (fun U => U.heap.size = sz ∧ va_P (dC, dI) vwCl [(s0, .inr (3, [.ref r0, .ref t0, .ref w0, .ref l0, .ref k0, .ref v0, .ref v1, .ref v2, .int 0, .int 0, .int 0, .int 0])), (t0, .inr (4, [.ref u0, .ref u1, .ref u2, .ref u3, .ref u4, .int 0, .int 0, .int 0, .int 1])), (w0, .inr (5, [.ref r0, .ref t0, .ref y0, .ref y1]))] U.heap ∧ va_K (dC, dI) vwCl [] U ∧ va_D (fun _ => True) [(s0, .inr (3, [.ref r0, .ref t0, .ref w0, .ref l0, .ref k0, .ref v0, .ref v1, .ref v2, .int 0, .int 0, .int 0, .int 0])), (t0, .inr (4, [.ref u0, .ref u1, .ref u2, .ref u3, .ref u4, .int 0, .int 0, .int 0, .int 1])), (w0, .inr (5, [.ref r0, .ref t0, .ref y0, .ref y1]))])) (va_Qi (fun (r : Int32) (_ : Unit) => r = 1) (fun (_ : Unit) t => va_P (dC, dI) vwCl [(w0, .inr (5, [.ref r0, .ref t0, .ref y0, .ref y1])), (s0, .inr (3, [.ref r0, .ref t0, .ref w0, .ref l0, .ref k0, .ref v0, .ref v1, .ref v2, .int 0, .int 0, .int 0, .int 0])), (t0, .inr (4, [.ref u0, .ref u1, .ref u2, .ref u3, .ref u4, .int 0, .int 0, .int 0, .int 1]))] t.heap ∧ va_K (dC, dI) vwCl [] t ∧ va_D (va_A [(s0, .inr (3, [.ref r0, .ref t0, .ref w0, .ref l0, .ref k0, .ref v0, .ref v1, .ref v2, .int 0, .int 0, .int 0, .int 0])), (t0, .inr (4, [.ref u0, .ref u1, .ref u2, .ref u3, .ref u4, .int 0, .int 0, .int 0, .int 1])), (w0, .inr (5, [.ref r0, .ref t0, .ref y0, .ref y1]))] sz) [(w0, .inr (5, [.ref r0, .ref t0, .ref y0, .ref y1])), (s0, .inr (3, [.ref r0, .ref t0, .ref w0, .ref l0, .ref k0, .ref v0, .ref v1, .ref v2, .int 0, .int 0, .int 0, .int 0])), (t0, .inr (4, [.ref u0, .ref u1, .ref u2, .ref u3, .ref u4, .int 0, .int 0, .int 0, .int 1]))]) (va_A [(s0, .inr (3, [.ref r0, .ref t0, .ref w0, .ref l0, .ref k0, .ref v0, .ref v1, .ref v2, .int 0, .int 0, .int 0, .int 0])), (t0, .inr (4, [.ref u0, .ref u1, .ref u2, .ref u3, .ref u4, .int 0, .int 0, .int 0, .int 1])), (w0, .inr (5, [.ref r0, .ref t0, .ref y0, .ref y1]))] sz)) 0 0 (va_A [(s0, .inr (3, [.ref r0, .ref t0, .ref w0, .ref l0, .ref k0, .ref v0, .ref v1, .ref v2, .int 0, .int 0, .int 0, .int 0])), (t0, .inr (4, [.ref u0, .ref u1, .ref u2, .ref u3, .ref u4, .int 0, .int 0, .int 0, .int 1])), (w0, .inr (5, [.ref r0, .ref t0, .ref y0, .ref y1]))] sz) := by
  refine Met.ofW (cc := prog_5_method_5_code) (maxL := 8) (ret := (some .boolean)) (by decide) rfl ?_
  intro p e s m args below meth c s₁ B hml hv
  obtain ⟨rfl, hsz, hP, hK, hD0⟩ := hv
  have hx := B.exec
  have hb := B.bytes
  have hr := B.returns
  have hw : ∀ w ∈ bg_W, w.before #[Value.ref s0, Value.int 0, Value.ref b0, Value.int 0] s = true := fun w h => atoms_spec (ws := (wq y_Sr_findLeast prog_5_method_5_code 8 (some .boolean))) B.pre w (List.mem_cons_of_mem _ h)
  have hown : s.vm.findClass R_Sr = some m.cls := findClass_of_methodNamed B.named
  have hlocks := B.notSynchronized
  subst hsz
  have hD := hD0.self (sz := s.heap.size)
  generalize hAe : va_A [(s0, .inr (3, [.ref r0, .ref t0, .ref w0, .ref l0, .ref k0, .ref v0, .ref v1, .ref v2, .int 0, .int 0, .int 0, .int 0])), (t0, .inr (4, [.ref u0, .ref u1, .ref u2, .ref u3, .ref u4, .int 0, .int 0, .int 0, .int 1])), (w0, .inr (5, [.ref r0, .ref t0, .ref y0, .ref y1]))] s.heap.size = A at hD ⊢
  have hA : ∀ q : Nat, s.heap.size ≤ q → A q := fun q h => by rw [← hAe]; exact Or.inr h
  have hS : va_S A s.heap s.heap [] := va_S.rf
  have hP : va_P (dC, dI) vwCl [(s0, .inr (3, [.ref r0, .ref t0, .ref w0, .ref l0, .ref k0, .ref v0, .ref v1, .ref v2, .int 0, .int 0, .int 0, .int 0])), (t0, .inr (4, [.ref u0, .ref u1, .ref u2, .ref u3, .ref u4, .int 0, .int 0, .int 0, .int 1])), (w0, .inr (5, [.ref r0, .ref t0, .ref y0, .ref y1]))] s.heap := hP
  have hl := lv_entry ([.ref s0, .int 0, .ref b0, .int 0]) (n := 8) (Nat.le_of_ble_eq_true rfl)
  rw [lg_entry_eq]
  generalize (lg_sl ([.ref s0, .int 0, .ref b0, .int 0]) ++ List.replicate (8 - (lg_sl ([.ref s0, .int 0, .ref b0, .int 0])).length) Slot.unset).toArray = ls at hl ⊢
  have hl : lv_has ls 8 [(0, .ref s0), (1, .int 0), (2, .ref b0), (3, .int 0)] := hl
  obtain ⟨H, hH⟩ : ∃ H : Heap, H = s.heap := ⟨_, rfl⟩
  rw [← hH] at hP
  have hS : va_S A s.heap H [] := by rw [hH]; exact va_S.rf
  show W p l e _ s m _ below meth c s.heap [] 0 0 _ _
  rw [← hH]
  refine lv_aload_n hx hb d_Sr_findLeast_0 rfl (lv_at hl 0 rfl) ?_
  refine va_get (D := (dC, dI)) (ci := 3) (v := .ref t0) (C := R_Sr) (T := F_Sr) (N := 12) hx hb hw in_Sr hown hK hP 0 rfl rfl 1 (by decide) (hw (Cond.fieldLink "ClauseSearch$Search" 15 "ClauseSearch$Search" "trail" "LClauseSearch$Trail;") k_218) (fun _ h9 => h9) rfl d_Sr_findLeast_1 ?_
  have hPc := hP.sub (ws' := [(t0, .inr (4, [.ref u0, .ref u1, .ref u2, .ref u3, .ref u4, .int 0, .int 0, .int 0, .int 1]))]) [1] rfl
  have hDc := hD.sub (ws' := [(t0, .inr (4, [.ref u0, .ref u1, .ref u2, .ref u3, .ref u4, .int 0, .int 0, .int 0, .int 1]))]) [1] (by decide) rfl
  have hKc := hK.sub (tys' := []) [] rfl
  have hFc := va_free (wc := [(t0, .inr (4, [.ref u0, .ref u1, .ref u2, .ref u3, .ref u4, .int 0, .int 0, .int 0, .int 1]))]) hD hS hA [1] rfl
  refine va_callv (va_runV (As := []) (rest := []) ⟨hx, hb, hml, hown, hw⟩ (c_Tr_clear_0 l dC dI t0 u0 u1 u2 u3 u4 H.size) (cb_V (C := R_Tr) 0 hw k_291 k_32 k_288 k_289 k_290 rfl rfl (by decide +kernel) ⟨Nat.le_of_ble_eq_true rfl, Nat.le_of_ble_eq_true rfl⟩) ⟨fun a U g mk q => by obtain ⟨q0, q1, qP, qK, qD⟩ := q; exact ⟨q0, q1, qP, va_K.moved (u := U) (U := U.calling g mk a) (Vm.Alike.refl U.vm) qK, qD⟩, va_recv hKc hPc (ci := 4) (q0 := 0) rfl rfl, fun U hU hW => ⟨rfl, by rw [hU], by rw [hU]; exact hPc, va_K.moved hW.alike hKc, hDc.weaken (fun _ _ _ _ => trivial)⟩⟩ rfl rfl hl.1 rfl (lv_room (Nat.le_of_ble_eq_true rfl)) d_Sr_findLeast_4 ⟨Nat.le_of_ble_eq_true rfl, Nat.le_of_ble_eq_true rfl⟩) hS (fun q _ h => hFc q h) hFc (fun u t H1 locs ht hvm hw9 hB hz1 hk1 hS => ?_)
  obtain ⟨hP1, hK1, hD1⟩ := hB
  rw [ht] at hP1
  have hK1 := va_K.moved hvm.symm hK1
  obtain ⟨hP, hD⟩ := va_join (wr := [(s0, .inr (3, [.ref r0, .ref t0, .ref w0, .ref l0, .ref k0, .ref v0, .ref v1, .ref v2, .int 0, .int 0, .int 0, .int 0])), (w0, .inr (5, [.ref r0, .ref t0, .ref y0, .ref y1]))]) (w1 := [(t0, .inr (4, [.ref u0, .ref u1, .ref u2, .ref u3, .ref u4, .int 0, .int 0, .int 0, .int 1]))]) hP hD [1] [0, 2] rfl rfl (by decide) (by decide) hk1 hFc hP1 hD1
  generalize H1 = H at hP hS ⊢
  have hP : va_P (dC, dI) vwCl [(s0, .inr (3, [.ref r0, .ref t0, .ref w0, .ref l0, .ref k0, .ref v0, .ref v1, .ref v2, .int 0, .int 0, .int 0, .int 0])), (w0, .inr (5, [.ref r0, .ref t0, .ref y0, .ref y1])), (t0, .inr (4, [.ref u0, .ref u1, .ref u2, .ref u3, .ref u4, .int 0, .int 0, .int 0, .int 1]))] H := hP
  have hD : va_D A [(s0, .inr (3, [.ref r0, .ref t0, .ref w0, .ref l0, .ref k0, .ref v0, .ref v1, .ref v2, .int 0, .int 0, .int 0, .int 0])), (w0, .inr (5, [.ref r0, .ref t0, .ref y0, .ref y1])), (t0, .inr (4, [.ref u0, .ref u1, .ref u2, .ref u3, .ref u4, .int 0, .int 0, .int 0, .int 1]))] := hD
  refine W.widen (k := 0) (n := 0) (by decide) (by decide) ?_
  refine lv_aload_n hx hb d_Sr_findLeast_7 rfl (lv_at hl 0 rfl) ?_
  have hPc := hP.sub (ws' := [(s0, .inr (3, [.ref r0, .ref t0, .ref w0, .ref l0, .ref k0, .ref v0, .ref v1, .ref v2, .int 0, .int 0, .int 0, .int 0]))]) [0] rfl
  have hDc := hD.sub (ws' := [(s0, .inr (3, [.ref r0, .ref t0, .ref w0, .ref l0, .ref k0, .ref v0, .ref v1, .ref v2, .int 0, .int 0, .int 0, .int 0]))]) [0] (by decide) rfl
  have hKc := hK.sub (tys' := []) [] rfl
  have hFc := va_free (wc := [(s0, .inr (3, [.ref r0, .ref t0, .ref w0, .ref l0, .ref k0, .ref v0, .ref v1, .ref v2, .int 0, .int 0, .int 0, .int 0]))]) hD hS hA [0] rfl
  refine va_callv (va_runV (As := []) (rest := []) ⟨hx, hb, hml, hown, hw⟩ (c_Sr_putFacts_0 l dC dI s0 r0 t0 w0 l0 k0 v0 v1 v2 H.size) (cb_V (C := R_Sr) 0 hw k_302 k_31 k_299 k_301 k_1 rfl rfl (by decide +kernel) ⟨Nat.le_of_ble_eq_true rfl, Nat.le_of_ble_eq_true rfl⟩) ⟨fun a U g mk q => by obtain ⟨q0, q1, qP, qK, qD⟩ := q; exact ⟨q0, q1, qP, va_K.moved (u := U) (U := U.calling g mk a) (Vm.Alike.refl U.vm) qK, qD⟩, va_recv hKc hPc (ci := 3) (q0 := 0) rfl rfl, fun U hU hW => ⟨rfl, by rw [hU], by rw [hU]; exact hPc, va_K.moved hW.alike hKc, hDc.weaken (fun _ _ _ _ => trivial)⟩⟩ rfl rfl hl.1 rfl (lv_room (Nat.le_of_ble_eq_true rfl)) d_Sr_findLeast_8 ⟨Nat.le_of_ble_eq_true rfl, Nat.le_of_ble_eq_true rfl⟩) hS (fun q _ h => hFc q h) hFc (fun u t H1 locs ht hvm hw9 hB hz1 hk1 hS => ?_)
  obtain ⟨hP1, hK1, hD1⟩ := hB
  rw [ht] at hP1
  have hK1 := va_K.moved hvm.symm hK1
  obtain ⟨hP, hD⟩ := va_join (wr := [(w0, .inr (5, [.ref r0, .ref t0, .ref y0, .ref y1])), (t0, .inr (4, [.ref u0, .ref u1, .ref u2, .ref u3, .ref u4, .int 0, .int 0, .int 0, .int 1]))]) (w1 := [(s0, .inr (3, [.ref r0, .ref t0, .ref w0, .ref l0, .ref k0, .ref v0, .ref v1, .ref v2, .int 0, .int 0, .int 0, .int 0]))]) hP hD [0] [1, 2] rfl rfl (by decide) (by decide) hk1 hFc hP1 hD1
  generalize H1 = H at hP hS ⊢
  have hP : va_P (dC, dI) vwCl [(w0, .inr (5, [.ref r0, .ref t0, .ref y0, .ref y1])), (t0, .inr (4, [.ref u0, .ref u1, .ref u2, .ref u3, .ref u4, .int 0, .int 0, .int 0, .int 1])), (s0, .inr (3, [.ref r0, .ref t0, .ref w0, .ref l0, .ref k0, .ref v0, .ref v1, .ref v2, .int 0, .int 0, .int 0, .int 0]))] H := hP
  have hD : va_D A [(w0, .inr (5, [.ref r0, .ref t0, .ref y0, .ref y1])), (t0, .inr (4, [.ref u0, .ref u1, .ref u2, .ref u3, .ref u4, .int 0, .int 0, .int 0, .int 1])), (s0, .inr (3, [.ref r0, .ref t0, .ref w0, .ref l0, .ref k0, .ref v0, .ref v1, .ref v2, .int 0, .int 0, .int 0, .int 0]))] := hD
  refine W.widen (k := 0) (n := 0) (by decide) (by decide) ?_
  refine lv_lconst (v := 0) hx hb d_Sr_findLeast_11 (by decide) ?_
  refine lv_lstore (lv' := [(4, .long 0), (0, .ref s0), (1, .int 0), (2, .ref b0), (3, .int 0)]) hx hb d_Sr_findLeast_12 hl (by decide) rfl (fun ls hl => ?_)
  refine lv_lload hx hb d_Sr_findLeast_14 (lv_at hl 0 rfl) ?_
  refine lv_ldc2 (v := 1099511627776) hx hb hown (hw (Cond.constantLong "ClauseSearch$Search" 87 1099511627776) k_307) d_Sr_findLeast_16 ?_
  refine W.lcmp hx hb d_Sr_findLeast_19 ?_
  refine lv_if_ge (tgt := 105) hx hb d_Sr_findLeast_20 (by decide) (fun c_20 => absurd c_20 (by decide)) (fun c_20 => ?_)
  refine lv_aload_n hx hb d_Sr_findLeast_23 rfl (lv_at hl 1 rfl) ?_
  refine va_get (D := (dC, dI)) (ci := 3) (v := .int 0) (C := R_Sr) (T := F_Sr) (N := 12) hx hb hw in_Sr hown hK hP 2 rfl rfl 11 (by decide) (hw (Cond.fieldLink "ClauseSearch$Search" 89 "ClauseSearch$Search" "hopeless" "Z") k_229) (fun _ h9 => h9) rfl d_Sr_findLeast_24 ?_
  refine lv_if_ne (tgt := 105) hx hb d_Sr_findLeast_27 (by decide) (fun c_27 => absurd c_27 (by decide)) (fun c_27 => ?_)
  refine lv_aload_n hx hb d_Sr_findLeast_30 rfl (lv_at hl 1 rfl) ?_
  refine va_get (D := (dC, dI)) (ci := 3) (v := .ref w0) (C := R_Sr) (T := F_Sr) (N := 12) hx hb hw in_Sr hown hK hP 2 rfl rfl 2 (by decide) (hw (Cond.fieldLink "ClauseSearch$Search" 24 "ClauseSearch$Search" "watch" "LClauseSearch$Watch;") k_219) (fun _ h9 => h9) rfl d_Sr_findLeast_31 ?_
  have hPc := hP.sub (ws' := [(w0, .inr (5, [.ref r0, .ref t0, .ref y0, .ref y1])), (t0, .inr (4, [.ref u0, .ref u1, .ref u2, .ref u3, .ref u4, .int 0, .int 0, .int 0, .int 1]))]) [0, 1] rfl
  have hDc := hD.sub (ws' := [(w0, .inr (5, [.ref r0, .ref t0, .ref y0, .ref y1])), (t0, .inr (4, [.ref u0, .ref u1, .ref u2, .ref u3, .ref u4, .int 0, .int 0, .int 0, .int 1]))]) [0, 1] (by decide) rfl
  have hKc := hK.sub (tys' := []) [] rfl
  have hFc := va_free (wc := [(w0, .inr (5, [.ref r0, .ref t0, .ref y0, .ref y1])), (t0, .inr (4, [.ref u0, .ref u1, .ref u2, .ref u3, .ref u4, .int 0, .int 0, .int 0, .int 1]))]) hD hS hA [0, 1] rfl
  refine va_calli (va_runV (As := []) (rest := []) ⟨hx, hb, hml, hown, hw⟩ (c_Wt_follow_0 l dC dI w0 r0 t0 y0 y1 u0 u1 u2 u3 u4 H.size) (cb_V (C := R_Wt) 0 hw k_311 k_33 k_308 k_309 k_310 rfl rfl (by decide +kernel) ⟨Nat.le_of_ble_eq_true rfl, Nat.le_of_ble_eq_true rfl⟩) ⟨fun a U g mk q => by obtain ⟨q0, q1, qP, qK, qD⟩ := q; exact ⟨q0, q1, qP, va_K.moved (u := U) (U := U.calling g mk a) (Vm.Alike.refl U.vm) qK, qD⟩, va_recv hKc hPc (ci := 5) (q0 := 0) rfl rfl, fun U hU hW => ⟨rfl, by rw [hU], by rw [hU]; exact hPc, va_K.moved hW.alike hKc, hDc.weaken (fun _ _ _ _ => trivial)⟩⟩ rfl rfl hl.1 rfl (lv_room (Nat.le_of_ble_eq_true rfl)) d_Sr_findLeast_34 ⟨Nat.le_of_ble_eq_true rfl, Nat.le_of_ble_eq_true rfl⟩) hS (fun q _ h => hFc q h) hFc (fun r_1 u t H1 locs ht hvm hw9 hB hz1 hk1 hS => ?_)
  obtain ⟨hP1, hK1, hD1⟩ := hB
  rw [ht] at hP1
  have hK1 := va_K.moved hvm.symm hK1
  obtain ⟨hP, hD⟩ := va_join (wr := [(s0, .inr (3, [.ref r0, .ref t0, .ref w0, .ref l0, .ref k0, .ref v0, .ref v1, .ref v2, .int 0, .int 0, .int 0, .int 0]))]) (w1 := [(w0, .inr (5, [.ref r0, .ref t0, .ref y0, .ref y1])), (t0, .inr (4, [.ref u0, .ref u1, .ref u2, .ref u3, .ref u4, .int 0, .int 0, .int 0, .int 1]))]) hP hD [0, 1] [2] rfl rfl (by decide) (by decide) hk1 hFc hP1 hD1
  generalize H1 = H at hP hS ⊢
  have hP : va_P (dC, dI) vwCl [(s0, .inr (3, [.ref r0, .ref t0, .ref w0, .ref l0, .ref k0, .ref v0, .ref v1, .ref v2, .int 0, .int 0, .int 0, .int 0])), (w0, .inr (5, [.ref r0, .ref t0, .ref y0, .ref y1])), (t0, .inr (4, [.ref u0, .ref u1, .ref u2, .ref u3, .ref u4, .int 0, .int 0, .int 0, .int 1]))] H := hP
  have hD : va_D A [(s0, .inr (3, [.ref r0, .ref t0, .ref w0, .ref l0, .ref k0, .ref v0, .ref v1, .ref v2, .int 0, .int 0, .int 0, .int 0])), (w0, .inr (5, [.ref r0, .ref t0, .ref y0, .ref y1])), (t0, .inr (4, [.ref u0, .ref u1, .ref u2, .ref u3, .ref u4, .int 0, .int 0, .int 0, .int 1]))] := hD
  refine W.widen (k := 0) (n := 0) (by decide) (by decide) ?_
  have hw9 : r_1 = -1 := hw9
  subst hw9
  refine lv_istore (lv' := [(6, .int (-1)), (4, .long 0), (0, .ref s0), (1, .int 0), (2, .ref b0), (3, .int 0)]) hx hb d_Sr_findLeast_37 hl (by decide) rfl (fun ls hl => ?_)
  refine lv_iload hx hb d_Sr_findLeast_39 (lv_at hl 0 rfl) ?_
  refine lv_iconst (v := (-1)) hx hb d_Sr_findLeast_41 (by decide) ?_
  refine lv_icmp_eq (tgt := 54) hx hb d_Sr_findLeast_42 (by decide) (fun c_42 => ?_) (fun c_42 => absurd c_42 (by decide))
  refine lv_aload_n hx hb d_Sr_findLeast_54 rfl (lv_at hl 2 rfl) ?_
  refine lv_iload_n hx hb d_Sr_findLeast_55 rfl (lv_at hl 3 rfl) ?_
  refine lv_aload_n hx hb d_Sr_findLeast_56 rfl (lv_at hl 4 rfl) ?_
  refine lv_iload_n hx hb d_Sr_findLeast_57 rfl (lv_at hl 5 rfl) ?_
  have hPc := hP.sub (ws' := [(s0, .inr (3, [.ref r0, .ref t0, .ref w0, .ref l0, .ref k0, .ref v0, .ref v1, .ref v2, .int 0, .int 0, .int 0, .int 0])), (t0, .inr (4, [.ref u0, .ref u1, .ref u2, .ref u3, .ref u4, .int 0, .int 0, .int 0, .int 1]))]) [0, 2] rfl
  have hDc := hD.sub (ws' := [(s0, .inr (3, [.ref r0, .ref t0, .ref w0, .ref l0, .ref k0, .ref v0, .ref v1, .ref v2, .int 0, .int 0, .int 0, .int 0])), (t0, .inr (4, [.ref u0, .ref u1, .ref u2, .ref u3, .ref u4, .int 0, .int 0, .int 0, .int 1]))]) [0, 2] (by decide) rfl
  have hKc := hK.sub (tys' := []) [] rfl
  have hFc := va_free (wc := [(s0, .inr (3, [.ref r0, .ref t0, .ref w0, .ref l0, .ref k0, .ref v0, .ref v1, .ref v2, .int 0, .int 0, .int 0, .int 0])), (t0, .inr (4, [.ref u0, .ref u1, .ref u2, .ref u3, .ref u4, .int 0, .int 0, .int 0, .int 1]))]) hD hS hA [0, 2] rfl
  refine va_calli (va_runV (As := [.int 0, .ref b0, .int 0]) (rest := []) ⟨hx, hb, hml, hown, hw⟩ (c_Sr_codeToTry_0 l dC dI s0 r0 t0 w0 l0 k0 v0 v1 v2 u0 u1 u2 u3 u4 b0 H.size) (cb_V (C := R_Sr) 3 hw k_415 k_31 k_412 k_414 k_14 rfl rfl (by decide +kernel) ⟨Nat.le_of_ble_eq_true rfl, Nat.le_of_ble_eq_true rfl⟩) ⟨fun a U g mk q => by obtain ⟨q0, q1, qP, qK, qD⟩ := q; exact ⟨q0, q1, qP, va_K.moved (u := U) (U := U.calling g mk a) (Vm.Alike.refl U.vm) qK, qD⟩, va_recv hKc hPc (ci := 3) (q0 := 0) rfl rfl, fun U hU hW => ⟨rfl, by rw [hU], by rw [hU]; exact hPc, va_K.moved hW.alike hKc, hDc.weaken (fun _ _ _ _ => trivial)⟩⟩ rfl rfl hl.1 rfl (lv_room (Nat.le_of_ble_eq_true rfl)) d_Sr_findLeast_58 ⟨Nat.le_of_ble_eq_true rfl, Nat.le_of_ble_eq_true rfl⟩) hS (fun q _ h => hFc q h) hFc (fun r_2 u t H1 locs ht hvm hw9 hB hz1 hk1 hS => ?_)
  obtain ⟨hP1, hK1, hD1⟩ := hB
  rw [ht] at hP1
  have hK1 := va_K.moved hvm.symm hK1
  obtain ⟨hP, hD⟩ := va_join (wr := [(w0, .inr (5, [.ref r0, .ref t0, .ref y0, .ref y1]))]) (w1 := [(s0, .inr (3, [.ref r0, .ref t0, .ref w0, .ref l0, .ref k0, .ref v0, .ref v1, .ref v2, .int 0, .int 0, .int 0, .int 0])), (t0, .inr (4, [.ref u0, .ref u1, .ref u2, .ref u3, .ref u4, .int 0, .int 0, .int 0, .int 1]))]) hP hD [0, 2] [1] rfl rfl (by decide) (by decide) hk1 hFc hP1 hD1
  generalize H1 = H at hP hS ⊢
  have hP : va_P (dC, dI) vwCl [(w0, .inr (5, [.ref r0, .ref t0, .ref y0, .ref y1])), (s0, .inr (3, [.ref r0, .ref t0, .ref w0, .ref l0, .ref k0, .ref v0, .ref v1, .ref v2, .int 0, .int 0, .int 0, .int 0])), (t0, .inr (4, [.ref u0, .ref u1, .ref u2, .ref u3, .ref u4, .int 0, .int 0, .int 0, .int 1]))] H := hP
  have hD : va_D A [(w0, .inr (5, [.ref r0, .ref t0, .ref y0, .ref y1])), (s0, .inr (3, [.ref r0, .ref t0, .ref w0, .ref l0, .ref k0, .ref v0, .ref v1, .ref v2, .int 0, .int 0, .int 0, .int 0])), (t0, .inr (4, [.ref u0, .ref u1, .ref u2, .ref u3, .ref u4, .int 0, .int 0, .int 0, .int 1]))] := hD
  refine W.widen (k := 0) (n := 0) (by decide) (by decide) ?_
  have hw9 : r_2 = -1 := hw9
  subst hw9
  refine lv_istore (lv' := [(7, .int (-1)), (6, .int (-1)), (4, .long 0), (0, .ref s0), (1, .int 0), (2, .ref b0), (3, .int 0)]) hx hb d_Sr_findLeast_61 hl (by decide) rfl (fun ls hl => ?_)
  refine lv_iload hx hb d_Sr_findLeast_63 (lv_at hl 0 rfl) ?_
  refine lv_iconst (v := (-1)) hx hb d_Sr_findLeast_65 (by decide) ?_
  refine lv_icmp_ne (tgt := 71) hx hb d_Sr_findLeast_66 (by decide) (fun c_66 => absurd c_66 (by decide)) (fun c_66 => ?_)
  refine lv_iconst (v := 1) hx hb d_Sr_findLeast_69 (by decide) ?_
  refine W.widen (k := 0) (n := 0) (by decide) (by decide) ?_
  exact W.zret (v := 1) hx hb hr rfl (fun t ht hW => ⟨⟨1, (), rfl, rfl, by rw [ht]; exact hP, va_K.moved hW.alike hK, hD⟩, hS.F ht⟩) hS.2.2 d_Sr_findLeast_70

set_option maxHeartbeats 4000000 in
set_option maxRecDepth 100000 in
/-- tellWay without variables -/
theorem c_Sr_tellWay_0 (l : Launch) (dC : Nat → ClassId) (dI : Nat → Nat → Nat) (s0 : Nat) (r0 : Nat) (t0 : Nat) (w0 : Nat) (l0 : Nat) (k0 : Nat) (v0 : Nat) (v1 : Nat) (v2 : Nat) (b3 : Nat) (sz : Nat) : Met l y_Sr_tellWay (wq y_Sr_tellWay prog_5_method_11_code 4 none) ({ frames := 0, cells := 0, slots := 0, locals := 0 }) (va_Pc [.ref s0, .ref b3, .int 0] (fun U => U.heap.size = sz ∧ va_P (dC, dI) vwCl [(s0, .inr (3, [.ref r0, .ref t0, .ref w0, .ref l0, .ref k0, .ref v0, .ref v1, .ref v2, .int 0, .int 0, .int 0, .int 0]))] U.heap ∧ va_K (dC, dI) vwCl [] U ∧ va_D (fun _ => True) [(s0, .inr (3, [.ref r0, .ref t0, .ref w0, .ref l0, .ref k0, .ref v0, .ref v1, .ref v2, .int 0, .int 0, .int 0, .int 0]))])) (va_Qv (fun _ : Unit => True) (fun (_ : Unit) t => va_P (dC, dI) vwCl [(s0, .inr (3, [.ref r0, .ref t0, .ref w0, .ref l0, .ref k0, .ref v0, .ref v1, .ref v2, .int 0, .int 0, .int 0, .int 0]))] t.heap ∧ va_K (dC, dI) vwCl [] t ∧ va_D (va_A [(s0, .inr (3, [.ref r0, .ref t0, .ref w0, .ref l0, .ref k0, .ref v0, .ref v1, .ref v2, .int 0, .int 0, .int 0, .int 0]))] sz) [(s0, .inr (3, [.ref r0, .ref t0, .ref w0, .ref l0, .ref k0, .ref v0, .ref v1, .ref v2, .int 0, .int 0, .int 0, .int 0]))]) (va_A [(s0, .inr (3, [.ref r0, .ref t0, .ref w0, .ref l0, .ref k0, .ref v0, .ref v1, .ref v2, .int 0, .int 0, .int 0, .int 0]))] sz)) 0 0 (va_A [(s0, .inr (3, [.ref r0, .ref t0, .ref w0, .ref l0, .ref k0, .ref v0, .ref v1, .ref v2, .int 0, .int 0, .int 0, .int 0]))] sz) := by
  refine Met.ofW (cc := prog_5_method_11_code) (maxL := 4) (ret := none) (by decide) rfl ?_
  intro p e s m args below meth c s₁ B hml hv
  obtain ⟨rfl, hsz, hP, hK, hD0⟩ := hv
  have hx := B.exec
  have hb := B.bytes
  have hr := B.returns
  have hw : ∀ w ∈ bg_W, w.before #[Value.ref s0, Value.ref b3, Value.int 0] s = true := fun w h => atoms_spec (ws := (wq y_Sr_tellWay prog_5_method_11_code 4 none)) B.pre w (List.mem_cons_of_mem _ h)
  have hown : s.vm.findClass R_Sr = some m.cls := findClass_of_methodNamed B.named
  have hlocks := B.notSynchronized
  subst hsz
  have hD := hD0.self (sz := s.heap.size)
  generalize hAe : va_A [(s0, .inr (3, [.ref r0, .ref t0, .ref w0, .ref l0, .ref k0, .ref v0, .ref v1, .ref v2, .int 0, .int 0, .int 0, .int 0]))] s.heap.size = A at hD ⊢
  have hA : ∀ q : Nat, s.heap.size ≤ q → A q := fun q h => by rw [← hAe]; exact Or.inr h
  have hS : va_S A s.heap s.heap [] := va_S.rf
  have hP : va_P (dC, dI) vwCl [(s0, .inr (3, [.ref r0, .ref t0, .ref w0, .ref l0, .ref k0, .ref v0, .ref v1, .ref v2, .int 0, .int 0, .int 0, .int 0]))] s.heap := hP
  have hl := lv_entry ([.ref s0, .ref b3, .int 0]) (n := 4) (Nat.le_of_ble_eq_true rfl)
  rw [lg_entry_eq]
  generalize (lg_sl ([.ref s0, .ref b3, .int 0]) ++ List.replicate (4 - (lg_sl ([.ref s0, .ref b3, .int 0])).length) Slot.unset).toArray = ls at hl ⊢
  have hl : lv_has ls 4 [(0, .ref s0), (1, .ref b3), (2, .int 0)] := hl
  obtain ⟨H, hH⟩ : ∃ H : Heap, H = s.heap := ⟨_, rfl⟩
  rw [← hH] at hP
  have hS : va_S A s.heap H [] := by rw [hH]; exact va_S.rf
  show W p l e _ s m _ below meth c s.heap [] 0 0 _ _
  rw [← hH]
  refine lv_iconst (v := 1) hx hb d_Sr_tellWay_0 (by decide) ?_
  refine lv_istore_n (lv' := [(3, .int 1), (0, .ref s0), (1, .ref b3), (2, .int 0)]) hx hb d_Sr_tellWay_1 rfl hl (by decide) rfl (fun ls hl => ?_)
  refine lv_iload_n hx hb d_Sr_tellWay_2 rfl (lv_at hl 0 rfl) ?_
  refine lv_iload_n hx hb d_Sr_tellWay_3 rfl (lv_at hl 3 rfl) ?_
  refine lv_icmp_gt (tgt := 36) hx hb d_Sr_tellWay_4 (by decide) (fun c_4 => ?_) (fun c_4 => absurd c_4 (by decide))
  refine W.widen (k := 0) (n := 0) (by decide) (by decide) ?_
  exact W.vret hx hb hr (fun t ht hW => ⟨⟨(), rfl, trivial, by rw [ht]; exact hP, va_K.moved hW.alike hK, hD⟩, hS.F ht⟩) hS.2.2 d_Sr_tellWay_36
end
section
abbrev y_Cs_wayIsGood : MethodName := ⟨"ClauseSearch", "wayIsGood", "()Z"⟩
abbrev y_Cs_takeWay : MethodName := ⟨"ClauseSearch", "takeWay", "()Z"⟩
abbrev y_Cs_solve : MethodName := ⟨"ClauseSearch", "solve", "()Z"⟩
theorem k_15 : (Cond.selects "ClauseSearch" ⟨"ClauseSearch", "takeWay", "()Z"⟩ ⟨"ClauseSearch", "takeWay", "()Z"⟩) ∈ bg_W := bg_in 15 (by decide +kernel) (by decide +kernel)
theorem k_16 : (Cond.selects "ClauseSearch" ⟨"ClauseSearch", "wayIsGood", "()Z"⟩ ⟨"ClauseSearch", "wayIsGood", "()Z"⟩) ∈ bg_W := bg_in 16 (by decide +kernel) (by decide +kernel)
theorem k_29 : (Cond.initialized "ClauseSearch") ∈ bg_W := bg_in 29 (by decide +kernel) (by decide +kernel)
theorem k_76 : (Cond.fieldLinkNest "ClauseSearch" 68 "ClauseSearch$Rows" "size" "I" "ClauseSearch") ∈ bg_W := bg_in 76 (by decide +kernel) (by decide +kernel)
theorem k_227 : (Cond.fieldLinkNest "ClauseSearch" 93 "ClauseSearch$Search" "badLessons" "I" "ClauseSearch") ∈ bg_W := bg_in 227 (by decide +kernel) (by decide +kernel)
theorem k_262 : (Cond.fieldLink "ClauseSearch" 96 "ClauseSearch" "badWays" "I") ∈ bg_W := bg_in 262 (by decide +kernel) (by decide +kernel)
theorem k_284 : (Cond.methodLink "ClauseSearch" 81 ⟨"ClauseSearch$Search", "findLeast", "(I[II)Z"⟩) ∈ bg_W := bg_in 284 (by decide +kernel) (by decide +kernel)
theorem k_285 : (Cond.instanceMethod ⟨"ClauseSearch$Search", "findLeast", "(I[II)Z"⟩) ∈ bg_W := bg_in 285 (by decide +kernel) (by decide +kernel)
theorem k_286 : (Cond.selects "ClauseSearch$Search" ⟨"ClauseSearch$Search", "findLeast", "(I[II)Z"⟩ ⟨"ClauseSearch$Search", "findLeast", "(I[II)Z"⟩) ∈ bg_W := bg_in 286 (by decide +kernel) (by decide +kernel)
theorem k_287 : (Cond.code ⟨"ClauseSearch$Search", "findLeast", "(I[II)Z"⟩ prog_5_method_5_code 8 (some .boolean)) ∈ bg_W := bg_in 287 (by decide +kernel) (by decide +kernel)
theorem k_425 : (Cond.methodLink "ClauseSearch" 85 ⟨"ClauseSearch", "takeWay", "()Z"⟩) ∈ bg_W := bg_in 425 (by decide +kernel) (by decide +kernel)
theorem k_427 : (Cond.instanceMethod ⟨"ClauseSearch", "takeWay", "()Z"⟩) ∈ bg_W := bg_in 427 (by decide +kernel) (by decide +kernel)
theorem k_428 : (Cond.code ⟨"ClauseSearch", "takeWay", "()Z"⟩ prog_1_method_8_code 1 (some .boolean)) ∈ bg_W := bg_in 428 (by decide +kernel) (by decide +kernel)
theorem k_429 : (Cond.methodLink "ClauseSearch" 101 ⟨"ClauseSearch$Search", "tellWay", "([ZI)V"⟩) ∈ bg_W := bg_in 429 (by decide +kernel) (by decide +kernel)
theorem k_430 : (Cond.instanceMethod ⟨"ClauseSearch$Search", "tellWay", "([ZI)V"⟩) ∈ bg_W := bg_in 430 (by decide +kernel) (by decide +kernel)
theorem k_431 : (Cond.selects "ClauseSearch$Search" ⟨"ClauseSearch$Search", "tellWay", "([ZI)V"⟩ ⟨"ClauseSearch$Search", "tellWay", "([ZI)V"⟩) ∈ bg_W := bg_in 431 (by decide +kernel) (by decide +kernel)
theorem k_432 : (Cond.code ⟨"ClauseSearch$Search", "tellWay", "([ZI)V"⟩ prog_5_method_11_code 4 none) ∈ bg_W := bg_in 432 (by decide +kernel) (by decide +kernel)
theorem k_433 : (Cond.methodLink "ClauseSearch" 105 ⟨"ClauseSearch", "wayIsGood", "()Z"⟩) ∈ bg_W := bg_in 433 (by decide +kernel) (by decide +kernel)
theorem k_435 : (Cond.instanceMethod ⟨"ClauseSearch", "wayIsGood", "()Z"⟩) ∈ bg_W := bg_in 435 (by decide +kernel) (by decide +kernel)
theorem k_436 : (Cond.code ⟨"ClauseSearch", "wayIsGood", "()Z"⟩ prog_1_method_9_code 2 (some .boolean)) ∈ bg_W := bg_in 436 (by decide +kernel) (by decide +kernel)
theorem d_Cs_wayIsGood_0 : decode prog_1_method_9_code 0 = .ok (.iconst 0, 1) := by decide +kernel
theorem d_Cs_wayIsGood_1 : decode prog_1_method_9_code 1 = .ok (.istore_n 1, 1) := by decide +kernel
theorem d_Cs_wayIsGood_2 : decode prog_1_method_9_code 2 = .ok (.iload_n 1, 1) := by decide +kernel
theorem d_Cs_wayIsGood_3 : decode prog_1_method_9_code 3 = .ok (.aload_n 0, 1) := by decide +kernel
theorem d_Cs_wayIsGood_4 : decode prog_1_method_9_code 4 = .ok (.getfield 58, 3) := by decide +kernel
theorem d_Cs_wayIsGood_7 : decode prog_1_method_9_code 7 = .ok (.if_icmp .ge 24, 3) := by decide +kernel
theorem d_Cs_wayIsGood_31 : decode prog_1_method_9_code 31 = .ok (.iconst 0, 1) := by decide +kernel
theorem d_Cs_wayIsGood_32 : decode prog_1_method_9_code 32 = .ok (.istore_n 1, 1) := by decide +kernel
theorem d_Cs_wayIsGood_33 : decode prog_1_method_9_code 33 = .ok (.iload_n 1, 1) := by decide +kernel
theorem d_Cs_wayIsGood_34 : decode prog_1_method_9_code 34 = .ok (.aload_n 0, 1) := by decide +kernel
theorem d_Cs_wayIsGood_35 : decode prog_1_method_9_code 35 = .ok (.getfield 16, 3) := by decide +kernel
theorem d_Cs_wayIsGood_38 : decode prog_1_method_9_code 38 = .ok (.getfield 68, 3) := by decide +kernel
theorem d_Cs_wayIsGood_41 : decode prog_1_method_9_code 41 = .ok (.if_icmp .ge 19, 3) := by decide +kernel
theorem d_Cs_wayIsGood_60 : decode prog_1_method_9_code 60 = .ok (.iconst 1, 1) := by decide +kernel
theorem d_Cs_wayIsGood_61 : decode prog_1_method_9_code 61 = .ok (.ireturn, 1) := by decide +kernel
theorem d_Cs_takeWay_0 : decode prog_1_method_8_code 0 = .ok (.aload_n 0, 1) := by decide +kernel
theorem d_Cs_takeWay_1 : decode prog_1_method_8_code 1 = .ok (.getfield 28, 3) := by decide +kernel
theorem d_Cs_takeWay_4 : decode prog_1_method_8_code 4 = .ok (.aload_n 0, 1) := by decide +kernel
theorem d_Cs_takeWay_5 : decode prog_1_method_8_code 5 = .ok (.getfield 32, 3) := by decide +kernel
theorem d_Cs_takeWay_8 : decode prog_1_method_8_code 8 = .ok (.aload_n 0, 1) := by decide +kernel
theorem d_Cs_takeWay_9 : decode prog_1_method_8_code 9 = .ok (.getfield 43, 3) := by decide +kernel
theorem d_Cs_takeWay_12 : decode prog_1_method_8_code 12 = .ok (.invokevirtual 101, 3) := by decide +kernel
theorem d_Cs_takeWay_15 : decode prog_1_method_8_code 15 = .ok (.aload_n 0, 1) := by decide +kernel
theorem d_Cs_takeWay_16 : decode prog_1_method_8_code 16 = .ok (.invokevirtual 105, 3) := by decide +kernel
theorem d_Cs_takeWay_19 : decode prog_1_method_8_code 19 = .ok (.ifCond .eq 5, 3) := by decide +kernel
theorem d_Cs_takeWay_22 : decode prog_1_method_8_code 22 = .ok (.iconst 1, 1) := by decide +kernel
theorem d_Cs_takeWay_23 : decode prog_1_method_8_code 23 = .ok (.ireturn, 1) := by decide +kernel
theorem d_Cs_solve_0 : decode prog_1_method_5_code 0 = .ok (.aload_n 0, 1) := by decide +kernel
theorem d_Cs_solve_1 : decode prog_1_method_5_code 1 = .ok (.aload_n 0, 1) := by decide +kernel
theorem d_Cs_solve_2 : decode prog_1_method_5_code 2 = .ok (.getfield 28, 3) := by decide +kernel
theorem d_Cs_solve_5 : decode prog_1_method_5_code 5 = .ok (.aload_n 0, 1) := by decide +kernel
theorem d_Cs_solve_6 : decode prog_1_method_5_code 6 = .ok (.getfield 43, 3) := by decide +kernel
theorem d_Cs_solve_9 : decode prog_1_method_5_code 9 = .ok (.aload_n 0, 1) := by decide +kernel
theorem d_Cs_solve_10 : decode prog_1_method_5_code 10 = .ok (.getfield 9, 3) := by decide +kernel
theorem d_Cs_solve_13 : decode prog_1_method_5_code 13 = .ok (.aload_n 0, 1) := by decide +kernel
theorem d_Cs_solve_14 : decode prog_1_method_5_code 14 = .ok (.getfield 58, 3) := by decide +kernel
theorem d_Cs_solve_17 : decode prog_1_method_5_code 17 = .ok (.invokevirtual 81, 3) := by decide +kernel
theorem d_Cs_solve_20 : decode prog_1_method_5_code 20 = .ok (.ifCond .eq 14, 3) := by decide +kernel
theorem d_Cs_solve_23 : decode prog_1_method_5_code 23 = .ok (.aload_n 0, 1) := by decide +kernel
theorem d_Cs_solve_24 : decode prog_1_method_5_code 24 = .ok (.invokevirtual 85, 3) := by decide +kernel
theorem d_Cs_solve_27 : decode prog_1_method_5_code 27 = .ok (.ifCond .eq 7, 3) := by decide +kernel
theorem d_Cs_solve_30 : decode prog_1_method_5_code 30 = .ok (.iconst 1, 1) := by decide +kernel
theorem d_Cs_solve_31 : decode prog_1_method_5_code 31 = .ok (.goto 4, 3) := by decide +kernel
theorem d_Cs_solve_35 : decode prog_1_method_5_code 35 = .ok (.putfield 52, 3) := by decide +kernel
theorem d_Cs_solve_38 : decode prog_1_method_5_code 38 = .ok (.aload_n 0, 1) := by decide +kernel
theorem d_Cs_solve_39 : decode prog_1_method_5_code 39 = .ok (.iconst 0, 1) := by decide +kernel
theorem d_Cs_solve_40 : decode prog_1_method_5_code 40 = .ok (.putfield 58, 3) := by decide +kernel
theorem d_Cs_solve_43 : decode prog_1_method_5_code 43 = .ok (.aload_n 0, 1) := by decide +kernel
theorem d_Cs_solve_44 : decode prog_1_method_5_code 44 = .ok (.getfield 52, 3) := by decide +kernel
theorem d_Cs_solve_47 : decode prog_1_method_5_code 47 = .ok (.ireturn, 1) := by decide +kernel
theorem d_Cs_count_40 : decode prog_1_method_7_code 40 = .ok (.aload_n 0, 1) := by decide +kernel
theorem d_Cs_count_41 : decode prog_1_method_7_code 41 = .ok (.getfield 43, 3) := by decide +kernel
theorem d_Cs_count_44 : decode prog_1_method_7_code 44 = .ok (.ireturn, 1) := by decide +kernel
theorem d_Cs_count_45 : decode prog_1_method_7_code 45 = .ok (.aload_n 0, 1) := by decide +kernel
theorem d_Cs_count_46 : decode prog_1_method_7_code 46 = .ok (.getfield 16, 3) := by decide +kernel
theorem d_Cs_count_49 : decode prog_1_method_7_code 49 = .ok (.getfield 68, 3) := by decide +kernel
theorem d_Cs_count_52 : decode prog_1_method_7_code 52 = .ok (.ireturn, 1) := by decide +kernel
theorem d_Cs_count_53 : decode prog_1_method_7_code 53 = .ok (.aload_n 0, 1) := by decide +kernel
theorem d_Cs_count_54 : decode prog_1_method_7_code 54 = .ok (.getfield 58, 3) := by decide +kernel
theorem d_Cs_count_57 : decode prog_1_method_7_code 57 = .ok (.ireturn, 1) := by decide +kernel
theorem d_Cs_count_58 : decode prog_1_method_7_code 58 = .ok (.aload_n 0, 1) := by decide +kernel
theorem d_Cs_count_59 : decode prog_1_method_7_code 59 = .ok (.getfield 52, 3) := by decide +kernel
theorem d_Cs_count_62 : decode prog_1_method_7_code 62 = .ok (.ifCond .eq 7, 3) := by decide +kernel
theorem d_Cs_count_69 : decode prog_1_method_7_code 69 = .ok (.iconst 0, 1) := by decide +kernel
theorem d_Cs_count_70 : decode prog_1_method_7_code 70 = .ok (.ireturn, 1) := by decide +kernel
theorem d_Cs_count_71 : decode prog_1_method_7_code 71 = .ok (.aload_n 0, 1) := by decide +kernel
theorem d_Cs_count_72 : decode prog_1_method_7_code 72 = .ok (.getfield 28, 3) := by decide +kernel
theorem d_Cs_count_75 : decode prog_1_method_7_code 75 = .ok (.getfield 93, 3) := by decide +kernel
theorem d_Cs_count_78 : decode prog_1_method_7_code 78 = .ok (.ireturn, 1) := by decide +kernel
theorem d_Cs_count_79 : decode prog_1_method_7_code 79 = .ok (.aload_n 0, 1) := by decide +kernel
theorem d_Cs_count_80 : decode prog_1_method_7_code 80 = .ok (.getfield 96, 3) := by decide +kernel
theorem d_Cs_count_83 : decode prog_1_method_7_code 83 = .ok (.ireturn, 1) := by decide +kernel
theorem sw_6 {x : Int32} (h1 : ¬ x.toInt < 0) (h2 : ¬ 5 < x.toInt) : x = 0 ∨ x = 1 ∨ x = 2 ∨ x = 3 ∨ x = 4 ∨ x = 5 := by
  have h : x.toInt = 0 ∨ x.toInt = 1 ∨ x.toInt = 2 ∨ x.toInt = 3 ∨ x.toInt = 4 ∨ x.toInt = 5 := by omega
  rcases h with h | h | h | h | h | h
  · exact Or.inl (Int32.toInt_inj.mp (h.trans rfl))
  · exact Or.inr (Or.inl (Int32.toInt_inj.mp (h.trans rfl)))
  · exact Or.inr (Or.inr (Or.inl (Int32.toInt_inj.mp (h.trans rfl))))
  · exact Or.inr (Or.inr (Or.inr (Or.inl (Int32.toInt_inj.mp (h.trans rfl)))))
  · exact Or.inr (Or.inr (Or.inr (Or.inr (Or.inl (Int32.toInt_inj.mp (h.trans rfl))))))
  · exact Or.inr (Or.inr (Or.inr (Or.inr (Or.inr (Int32.toInt_inj.mp (h.trans rfl))))))
set_option maxHeartbeats 4000000 in
set_option maxRecDepth 100000 in
/-- wayIsGood() without clauses -/
theorem c_Cs_wayIsGood_0 (l : Launch) (dC : Nat → ClassId) (dI : Nat → Nat → Nat) (h0 : Nat) (b0 : Nat) (b1 : Nat) (s0 : Nat) (b3 : Nat) (g0 : Nat) (g1 : Nat) (g2 : Nat) (sz : Nat) : Met l y_Cs_wayIsGood (wq y_Cs_wayIsGood prog_1_method_9_code 2 (some .boolean)) ({ frames := 0, cells := 0, slots := 0, locals := 0 }) (va_Pc [.ref h0] (fun U => U.heap.size = sz ∧ va_P (dC, dI) vwCl [(h0, .inr (6, [.ref b0, .ref b1, .ref s0, .ref b3, .int 0, .int 0, .int 0, .int 0])), (b1, .inr (2, [.ref g0, .ref g1, .ref g2, .int 0]))] U.heap ∧ va_K (dC, dI) vwCl [] U ∧ va_D (fun _ => True) [(h0, .inr (6, [.ref b0, .ref b1, .ref s0, .ref b3, .int 0, .int 0, .int 0, .int 0])), (b1, .inr (2, [.ref g0, .ref g1, .ref g2, .int 0]))])) (va_Qi (fun (r : Int32) (_ : Unit) => r = 1) (fun (_ : Unit) t => va_P (dC, dI) vwCl [(h0, .inr (6, [.ref b0, .ref b1, .ref s0, .ref b3, .int 0, .int 0, .int 0, .int 0])), (b1, .inr (2, [.ref g0, .ref g1, .ref g2, .int 0]))] t.heap ∧ va_K (dC, dI) vwCl [] t ∧ va_D (va_A [(h0, .inr (6, [.ref b0, .ref b1, .ref s0, .ref b3, .int 0, .int 0, .int 0, .int 0])), (b1, .inr (2, [.ref g0, .ref g1, .ref g2, .int 0]))] sz) [(h0, .inr (6, [.ref b0, .ref b1, .ref s0, .ref b3, .int 0, .int 0, .int 0, .int 0])), (b1, .inr (2, [.ref g0, .ref g1, .ref g2, .int 0]))]) (va_A [(h0, .inr (6, [.ref b0, .ref b1, .ref s0, .ref b3, .int 0, .int 0, .int 0, .int 0])), (b1, .inr (2, [.ref g0, .ref g1, .ref g2, .int 0]))] sz)) 0 0 (va_A [(h0, .inr (6, [.ref b0, .ref b1, .ref s0, .ref b3, .int 0, .int 0, .int 0, .int 0])), (b1, .inr (2, [.ref g0, .ref g1, .ref g2, .int 0]))] sz) := by
  refine Met.ofW (cc := prog_1_method_9_code) (maxL := 2) (ret := (some .boolean)) (by decide) rfl ?_
  intro p e s m args below meth c s₁ B hml hv
  obtain ⟨rfl, hsz, hP, hK, hD0⟩ := hv
  have hx := B.exec
  have hb := B.bytes
  have hr := B.returns
  have hw : ∀ w ∈ bg_W, w.before #[Value.ref h0] s = true := fun w h => atoms_spec (ws := (wq y_Cs_wayIsGood prog_1_method_9_code 2 (some .boolean))) B.pre w (List.mem_cons_of_mem _ h)
  have hown : s.vm.findClass R_Cs = some m.cls := findClass_of_methodNamed B.named
  have hlocks := B.notSynchronized
  subst hsz
  have hD := hD0.self (sz := s.heap.size)
  generalize hAe : va_A [(h0, .inr (6, [.ref b0, .ref b1, .ref s0, .ref b3, .int 0, .int 0, .int 0, .int 0])), (b1, .inr (2, [.ref g0, .ref g1, .ref g2, .int 0]))] s.heap.size = A at hD ⊢
  have hA : ∀ q : Nat, s.heap.size ≤ q → A q := fun q h => by rw [← hAe]; exact Or.inr h
  have hS : va_S A s.heap s.heap [] := va_S.rf
  have hP : va_P (dC, dI) vwCl [(h0, .inr (6, [.ref b0, .ref b1, .ref s0, .ref b3, .int 0, .int 0, .int 0, .int 0])), (b1, .inr (2, [.ref g0, .ref g1, .ref g2, .int 0]))] s.heap := hP
  have hl := lv_entry ([.ref h0]) (n := 2) (Nat.le_of_ble_eq_true rfl)
  rw [lg_entry_eq]
  generalize (lg_sl ([.ref h0]) ++ List.replicate (2 - (lg_sl ([.ref h0])).length) Slot.unset).toArray = ls at hl ⊢
  have hl : lv_has ls 2 [(0, .ref h0)] := hl
  obtain ⟨H, hH⟩ : ∃ H : Heap, H = s.heap := ⟨_, rfl⟩
  rw [← hH] at hP
  have hS : va_S A s.heap H [] := by rw [hH]; exact va_S.rf
  show W p l e _ s m _ below meth c s.heap [] 0 0 _ _
  rw [← hH]
  refine lv_iconst (v := 0) hx hb d_Cs_wayIsGood_0 (by decide) ?_
  refine lv_istore_n (lv' := [(1, .int 0), (0, .ref h0)]) hx hb d_Cs_wayIsGood_1 rfl hl (by decide) rfl (fun ls hl => ?_)
  refine lv_iload_n hx hb d_Cs_wayIsGood_2 rfl (lv_at hl 0 rfl) ?_
  refine lv_aload_n hx hb d_Cs_wayIsGood_3 rfl (lv_at hl 1 rfl) ?_
  refine va_get (D := (dC, dI)) (ci := 6) (v := .int 0) (C := R_Cs) (T := F_Cs) (N := 8) hx hb hw in_Cs hown hK hP 0 rfl rfl 4 (by decide) (hw (Cond.fieldLink "ClauseSearch" 58 "ClauseSearch" "rowSize" "I") k_259) (fun _ h9 => h9) rfl d_Cs_wayIsGood_4 ?_
  refine lv_icmp_ge (tgt := 31) hx hb d_Cs_wayIsGood_7 (by decide) (fun c_7 => ?_) (fun c_7 => absurd c_7 (by decide))
  refine lv_iconst (v := 0) hx hb d_Cs_wayIsGood_31 (by decide) ?_
  refine lv_istore_n (lv' := [(1, .int 0), (0, .ref h0)]) hx hb d_Cs_wayIsGood_32 rfl hl (by decide) rfl (fun ls hl => ?_)
  refine lv_iload_n hx hb d_Cs_wayIsGood_33 rfl (lv_at hl 0 rfl) ?_
  refine lv_aload_n hx hb d_Cs_wayIsGood_34 rfl (lv_at hl 1 rfl) ?_
  refine va_get (D := (dC, dI)) (ci := 6) (v := .ref b1) (C := R_Cs) (T := F_Cs) (N := 8) hx hb hw in_Cs hown hK hP 0 rfl rfl 1 (by decide) (hw (Cond.fieldLink "ClauseSearch" 16 "ClauseSearch" "clauses" "LClauseSearch$Rows;") k_256) (fun _ h9 => h9) rfl d_Cs_wayIsGood_35 ?_
  refine va_getN (D := (dC, dI)) (ci := 2) (v := .int 0) (C := R_Rw) (T := F_Rw) (N := 4) hx hb hw in_Rw hown hK hP 1 rfl rfl 3 (by decide) (hw (Cond.fieldLinkNest "ClauseSearch" 68 "ClauseSearch$Rows" "size" "I" "ClauseSearch") k_76) (fun _ h9 => h9) rfl d_Cs_wayIsGood_38 ?_
  refine lv_icmp_ge (tgt := 60) hx hb d_Cs_wayIsGood_41 (by decide) (fun c_41 => ?_) (fun c_41 => absurd c_41 (by decide))
  refine lv_iconst (v := 1) hx hb d_Cs_wayIsGood_60 (by decide) ?_
  refine W.widen (k := 0) (n := 0) (by decide) (by decide) ?_
  exact W.zret (v := 1) hx hb hr rfl (fun t ht hW => ⟨⟨1, (), rfl, rfl, by rw [ht]; exact hP, va_K.moved hW.alike hK, hD⟩, hS.F ht⟩) hS.2.2 d_Cs_wayIsGood_61

set_option maxHeartbeats 4000000 in
set_option maxRecDepth 100000 in
/-- takeWay() without variables -/
theorem c_Cs_takeWay_0 (l : Launch) (dC : Nat → ClassId) (dI : Nat → Nat → Nat) (h0 : Nat) (b0 : Nat) (b1 : Nat) (s0 : Nat) (b3 : Nat) (g0 : Nat) (g1 : Nat) (g2 : Nat) (r0 : Nat) (t0 : Nat) (w0 : Nat) (l0 : Nat) (k0 : Nat) (v0 : Nat) (v1 : Nat) (v2 : Nat) (sz : Nat) : Met l y_Cs_takeWay (wq y_Cs_takeWay prog_1_method_8_code 1 (some .boolean)) ({ frames := 1, cells := 0, slots := 0, locals := 23 }) (va_Pc [.ref h0] (fun U => U.heap.size = sz ∧ va_P (dC, dI) vwCl [(h0, .inr (6, [.ref b0, .ref b1, .ref s0, .ref b3, .int 0, .int 0, .int 0, .int 0])), (b1, .inr (2, [.ref g0, .ref g1, .ref g2, .int 0])), (s0, .inr (3, [.ref r0, .ref t0, .ref w0, .ref l0, .ref k0, .ref v0, .ref v1, .ref v2, .int 0, .int 0, .int 0, .int 0]))] U.heap ∧ va_K (dC, dI) vwCl [] U ∧ va_D (fun _ => True) [(h0, .inr (6, [.ref b0, .ref b1, .ref s0, .ref b3, .int 0, .int 0, .int 0, .int 0])), (b1, .inr (2, [.ref g0, .ref g1, .ref g2, .int 0])), (s0, .inr (3, [.ref r0, .ref t0, .ref w0, .ref l0, .ref k0, .ref v0, .ref v1, .ref v2, .int 0, .int 0, .int 0, .int 0]))])) (va_Qi (fun (r : Int32) (_ : Unit) => r = 1) (fun (_ : Unit) t => va_P (dC, dI) vwCl [(s0, .inr (3, [.ref r0, .ref t0, .ref w0, .ref l0, .ref k0, .ref v0, .ref v1, .ref v2, .int 0, .int 0, .int 0, .int 0])), (h0, .inr (6, [.ref b0, .ref b1, .ref s0, .ref b3, .int 0, .int 0, .int 0, .int 0])), (b1, .inr (2, [.ref g0, .ref g1, .ref g2, .int 0]))] t.heap ∧ va_K (dC, dI) vwCl [] t ∧ va_D (va_A [(h0, .inr (6, [.ref b0, .ref b1, .ref s0, .ref b3, .int 0, .int 0, .int 0, .int 0])), (b1, .inr (2, [.ref g0, .ref g1, .ref g2, .int 0])), (s0, .inr (3, [.ref r0, .ref t0, .ref w0, .ref l0, .ref k0, .ref v0, .ref v1, .ref v2, .int 0, .int 0, .int 0, .int 0]))] sz) [(s0, .inr (3, [.ref r0, .ref t0, .ref w0, .ref l0, .ref k0, .ref v0, .ref v1, .ref v2, .int 0, .int 0, .int 0, .int 0])), (h0, .inr (6, [.ref b0, .ref b1, .ref s0, .ref b3, .int 0, .int 0, .int 0, .int 0])), (b1, .inr (2, [.ref g0, .ref g1, .ref g2, .int 0]))]) (va_A [(h0, .inr (6, [.ref b0, .ref b1, .ref s0, .ref b3, .int 0, .int 0, .int 0, .int 0])), (b1, .inr (2, [.ref g0, .ref g1, .ref g2, .int 0])), (s0, .inr (3, [.ref r0, .ref t0, .ref w0, .ref l0, .ref k0, .ref v0, .ref v1, .ref v2, .int 0, .int 0, .int 0, .int 0]))] sz)) 0 0 (va_A [(h0, .inr (6, [.ref b0, .ref b1, .ref s0, .ref b3, .int 0, .int 0, .int 0, .int 0])), (b1, .inr (2, [.ref g0, .ref g1, .ref g2, .int 0])), (s0, .inr (3, [.ref r0, .ref t0, .ref w0, .ref l0, .ref k0, .ref v0, .ref v1, .ref v2, .int 0, .int 0, .int 0, .int 0]))] sz) := by
  refine Met.ofW (cc := prog_1_method_8_code) (maxL := 1) (ret := (some .boolean)) (by decide) rfl ?_
  intro p e s m args below meth c s₁ B hml hv
  obtain ⟨rfl, hsz, hP, hK, hD0⟩ := hv
  have hx := B.exec
  have hb := B.bytes
  have hr := B.returns
  have hw : ∀ w ∈ bg_W, w.before #[Value.ref h0] s = true := fun w h => atoms_spec (ws := (wq y_Cs_takeWay prog_1_method_8_code 1 (some .boolean))) B.pre w (List.mem_cons_of_mem _ h)
  have hown : s.vm.findClass R_Cs = some m.cls := findClass_of_methodNamed B.named
  have hlocks := B.notSynchronized
  subst hsz
  have hD := hD0.self (sz := s.heap.size)
  generalize hAe : va_A [(h0, .inr (6, [.ref b0, .ref b1, .ref s0, .ref b3, .int 0, .int 0, .int 0, .int 0])), (b1, .inr (2, [.ref g0, .ref g1, .ref g2, .int 0])), (s0, .inr (3, [.ref r0, .ref t0, .ref w0, .ref l0, .ref k0, .ref v0, .ref v1, .ref v2, .int 0, .int 0, .int 0, .int 0]))] s.heap.size = A at hD ⊢
  have hA : ∀ q : Nat, s.heap.size ≤ q → A q := fun q h => by rw [← hAe]; exact Or.inr h
  have hS : va_S A s.heap s.heap [] := va_S.rf
  have hP : va_P (dC, dI) vwCl [(h0, .inr (6, [.ref b0, .ref b1, .ref s0, .ref b3, .int 0, .int 0, .int 0, .int 0])), (b1, .inr (2, [.ref g0, .ref g1, .ref g2, .int 0])), (s0, .inr (3, [.ref r0, .ref t0, .ref w0, .ref l0, .ref k0, .ref v0, .ref v1, .ref v2, .int 0, .int 0, .int 0, .int 0]))] s.heap := hP
  have hl := lv_entry ([.ref h0]) (n := 1) (Nat.le_of_ble_eq_true rfl)
  rw [lg_entry_eq]
  generalize (lg_sl ([.ref h0]) ++ List.replicate (1 - (lg_sl ([.ref h0])).length) Slot.unset).toArray = ls at hl ⊢
  have hl : lv_has ls 1 [(0, .ref h0)] := hl
  obtain ⟨H, hH⟩ : ∃ H : Heap, H = s.heap := ⟨_, rfl⟩
  rw [← hH] at hP
  have hS : va_S A s.heap H [] := by rw [hH]; exact va_S.rf
  show W p l e _ s m _ below meth c s.heap [] 0 0 _ _
  rw [← hH]
  refine lv_aload_n hx hb d_Cs_takeWay_0 rfl (lv_at hl 0 rfl) ?_
  refine va_get (D := (dC, dI)) (ci := 6) (v := .ref s0) (C := R_Cs) (T := F_Cs) (N := 8) hx hb hw in_Cs hown hK hP 0 rfl rfl 2 (by decide) (hw (Cond.fieldLink "ClauseSearch" 28 "ClauseSearch" "search" "LClauseSearch$Search;") k_257) (fun _ h9 => h9) rfl d_Cs_takeWay_1 ?_
  refine lv_aload_n hx hb d_Cs_takeWay_4 rfl (lv_at hl 0 rfl) ?_
  refine va_get (D := (dC, dI)) (ci := 6) (v := .ref b3) (C := R_Cs) (T := F_Cs) (N := 8) hx hb hw in_Cs hown hK hP 0 rfl rfl 3 (by decide) (hw (Cond.fieldLink "ClauseSearch" 32 "ClauseSearch" "way" "[Z") k_258) (fun _ h9 => h9) rfl d_Cs_takeWay_5 ?_
  refine lv_aload_n hx hb d_Cs_takeWay_8 rfl (lv_at hl 0 rfl) ?_
  refine va_get (D := (dC, dI)) (ci := 6) (v := .int 0) (C := R_Cs) (T := F_Cs) (N := 8) hx hb hw in_Cs hown hK hP 0 rfl rfl 5 (by decide) (hw (Cond.fieldLink "ClauseSearch" 43 "ClauseSearch" "variableCount" "I") k_260) (fun _ h9 => h9) rfl d_Cs_takeWay_9 ?_
  have hPc := hP.sub (ws' := [(s0, .inr (3, [.ref r0, .ref t0, .ref w0, .ref l0, .ref k0, .ref v0, .ref v1, .ref v2, .int 0, .int 0, .int 0, .int 0]))]) [2] rfl
  have hDc := hD.sub (ws' := [(s0, .inr (3, [.ref r0, .ref t0, .ref w0, .ref l0, .ref k0, .ref v0, .ref v1, .ref v2, .int 0, .int 0, .int 0, .int 0]))]) [2] (by decide) rfl
  have hKc := hK.sub (tys' := []) [] rfl
  have hFc := va_free (wc := [(s0, .inr (3, [.ref r0, .ref t0, .ref w0, .ref l0, .ref k0, .ref v0, .ref v1, .ref v2, .int 0, .int 0, .int 0, .int 0]))]) hD hS hA [2] rfl
  refine va_callv (va_runV (As := [.ref b3, .int 0]) (rest := []) ⟨hx, hb, hml, hown, hw⟩ (c_Sr_tellWay_0 l dC dI s0 r0 t0 w0 l0 k0 v0 v1 v2 b3 H.size) (cb_V (C := R_Sr) 2 hw k_432 k_31 k_429 k_430 k_431 rfl rfl (by decide +kernel) ⟨Nat.le_of_ble_eq_true rfl, Nat.le_of_ble_eq_true rfl⟩) ⟨fun a U g mk q => by obtain ⟨q0, q1, qP, qK, qD⟩ := q; exact ⟨q0, q1, qP, va_K.moved (u := U) (U := U.calling g mk a) (Vm.Alike.refl U.vm) qK, qD⟩, va_recv hKc hPc (ci := 3) (q0 := 0) rfl rfl, fun U hU hW => ⟨rfl, by rw [hU], by rw [hU]; exact hPc, va_K.moved hW.alike hKc, hDc.weaken (fun _ _ _ _ => trivial)⟩⟩ rfl rfl hl.1 rfl (lv_room (Nat.le_of_ble_eq_true rfl)) d_Cs_takeWay_12 ⟨Nat.le_of_ble_eq_true rfl, Nat.le_of_ble_eq_true rfl⟩) hS (fun q _ h => hFc q h) hFc (fun u t H1 locs ht hvm hw9 hB hz1 hk1 hS => ?_)
  obtain ⟨hP1, hK1, hD1⟩ := hB
  rw [ht] at hP1
  have hK1 := va_K.moved hvm.symm hK1
  obtain ⟨hP, hD⟩ := va_join (wr := [(h0, .inr (6, [.ref b0, .ref b1, .ref s0, .ref b3, .int 0, .int 0, .int 0, .int 0])), (b1, .inr (2, [.ref g0, .ref g1, .ref g2, .int 0]))]) (w1 := [(s0, .inr (3, [.ref r0, .ref t0, .ref w0, .ref l0, .ref k0, .ref v0, .ref v1, .ref v2, .int 0, .int 0, .int 0, .int 0]))]) hP hD [2] [0, 1] rfl rfl (by decide) (by decide) hk1 hFc hP1 hD1
  generalize H1 = H at hP hS ⊢
  have hP : va_P (dC, dI) vwCl [(h0, .inr (6, [.ref b0, .ref b1, .ref s0, .ref b3, .int 0, .int 0, .int 0, .int 0])), (b1, .inr (2, [.ref g0, .ref g1, .ref g2, .int 0])), (s0, .inr (3, [.ref r0, .ref t0, .ref w0, .ref l0, .ref k0, .ref v0, .ref v1, .ref v2, .int 0, .int 0, .int 0, .int 0]))] H := hP
  have hD : va_D A [(h0, .inr (6, [.ref b0, .ref b1, .ref s0, .ref b3, .int 0, .int 0, .int 0, .int 0])), (b1, .inr (2, [.ref g0, .ref g1, .ref g2, .int 0])), (s0, .inr (3, [.ref r0, .ref t0, .ref w0, .ref l0, .ref k0, .ref v0, .ref v1, .ref v2, .int 0, .int 0, .int 0, .int 0]))] := hD
  refine W.widen (k := 0) (n := 0) (by decide) (by decide) ?_
  refine lv_aload_n hx hb d_Cs_takeWay_15 rfl (lv_at hl 0 rfl) ?_
  have hPc := hP.sub (ws' := [(h0, .inr (6, [.ref b0, .ref b1, .ref s0, .ref b3, .int 0, .int 0, .int 0, .int 0])), (b1, .inr (2, [.ref g0, .ref g1, .ref g2, .int 0]))]) [0, 1] rfl
  have hDc := hD.sub (ws' := [(h0, .inr (6, [.ref b0, .ref b1, .ref s0, .ref b3, .int 0, .int 0, .int 0, .int 0])), (b1, .inr (2, [.ref g0, .ref g1, .ref g2, .int 0]))]) [0, 1] (by decide) rfl
  have hKc := hK.sub (tys' := []) [] rfl
  have hFc := va_free (wc := [(h0, .inr (6, [.ref b0, .ref b1, .ref s0, .ref b3, .int 0, .int 0, .int 0, .int 0])), (b1, .inr (2, [.ref g0, .ref g1, .ref g2, .int 0]))]) hD hS hA [0, 1] rfl
  refine va_calli (va_runV (As := []) (rest := []) ⟨hx, hb, hml, hown, hw⟩ (c_Cs_wayIsGood_0 l dC dI h0 b0 b1 s0 b3 g0 g1 g2 H.size) (cb_V (C := R_Cs) 0 hw k_436 k_29 k_433 k_435 k_16 rfl rfl (by decide +kernel) ⟨Nat.le_of_ble_eq_true rfl, Nat.le_of_ble_eq_true rfl⟩) ⟨fun a U g mk q => by obtain ⟨q0, q1, qP, qK, qD⟩ := q; exact ⟨q0, q1, qP, va_K.moved (u := U) (U := U.calling g mk a) (Vm.Alike.refl U.vm) qK, qD⟩, va_recv hKc hPc (ci := 6) (q0 := 0) rfl rfl, fun U hU hW => ⟨rfl, by rw [hU], by rw [hU]; exact hPc, va_K.moved hW.alike hKc, hDc.weaken (fun _ _ _ _ => trivial)⟩⟩ rfl rfl hl.1 rfl (lv_room (Nat.le_of_ble_eq_true rfl)) d_Cs_takeWay_16 ⟨Nat.le_of_ble_eq_true rfl, Nat.le_of_ble_eq_true rfl⟩) hS (fun q _ h => hFc q h) hFc (fun r_1 u t H1 locs ht hvm hw9 hB hz1 hk1 hS => ?_)
  obtain ⟨hP1, hK1, hD1⟩ := hB
  rw [ht] at hP1
  have hK1 := va_K.moved hvm.symm hK1
  obtain ⟨hP, hD⟩ := va_join (wr := [(s0, .inr (3, [.ref r0, .ref t0, .ref w0, .ref l0, .ref k0, .ref v0, .ref v1, .ref v2, .int 0, .int 0, .int 0, .int 0]))]) (w1 := [(h0, .inr (6, [.ref b0, .ref b1, .ref s0, .ref b3, .int 0, .int 0, .int 0, .int 0])), (b1, .inr (2, [.ref g0, .ref g1, .ref g2, .int 0]))]) hP hD [0, 1] [2] rfl rfl (by decide) (by decide) hk1 hFc hP1 hD1
  generalize H1 = H at hP hS ⊢
  have hP : va_P (dC, dI) vwCl [(s0, .inr (3, [.ref r0, .ref t0, .ref w0, .ref l0, .ref k0, .ref v0, .ref v1, .ref v2, .int 0, .int 0, .int 0, .int 0])), (h0, .inr (6, [.ref b0, .ref b1, .ref s0, .ref b3, .int 0, .int 0, .int 0, .int 0])), (b1, .inr (2, [.ref g0, .ref g1, .ref g2, .int 0]))] H := hP
  have hD : va_D A [(s0, .inr (3, [.ref r0, .ref t0, .ref w0, .ref l0, .ref k0, .ref v0, .ref v1, .ref v2, .int 0, .int 0, .int 0, .int 0])), (h0, .inr (6, [.ref b0, .ref b1, .ref s0, .ref b3, .int 0, .int 0, .int 0, .int 0])), (b1, .inr (2, [.ref g0, .ref g1, .ref g2, .int 0]))] := hD
  refine W.widen (k := 0) (n := 0) (by decide) (by decide) ?_
  have hw9 : r_1 = 1 := hw9
  subst hw9
  refine lv_if_eq (tgt := 24) hx hb d_Cs_takeWay_19 (by decide) (fun c_19 => absurd c_19 (by decide)) (fun c_19 => ?_)
  refine lv_iconst (v := 1) hx hb d_Cs_takeWay_22 (by decide) ?_
  refine W.widen (k := 0) (n := 0) (by decide) (by decide) ?_
  exact W.zret (v := 1) hx hb hr rfl (fun t ht hW => ⟨⟨1, (), rfl, rfl, by rw [ht]; exact hP, va_K.moved hW.alike hK, hD⟩, hS.F ht⟩) hS.2.2 d_Cs_takeWay_23

set_option maxHeartbeats 4000000 in
set_option maxRecDepth 100000 in
/-- solve() of a new object -/
theorem c_Cs_solve_0 (l : Launch) (dC : Nat → ClassId) (dI : Nat → Nat → Nat) (h0 : Nat) (b0 : Nat) (b1 : Nat) (s0 : Nat) (b3 : Nat) (g0 : Nat) (g1 : Nat) (g2 : Nat) (r0 : Nat) (t0 : Nat) (w0 : Nat) (l0 : Nat) (k0 : Nat) (v0 : Nat) (v1 : Nat) (v2 : Nat) (u0 : Nat) (u1 : Nat) (u2 : Nat) (u3 : Nat) (u4 : Nat) (y0 : Nat) (y1 : Nat) (sz : Nat) : Met l y_Cs_solve (wq y_Cs_solve prog_1_method_5_code 1 (some .boolean)) ({ frames := 4, cells := 0, slots := 0, locals := 84 }) (va_Pc [.ref h0] (fun U => U.heap.size = sz ∧ va_P (dC, dI) vwCl [(h0, .inr (6, [.ref b0, .ref b1, .ref s0, .ref b3, .int 0, .int 0, .int 0, .int 0])), (b1, .inr (2, [.ref g0, .ref g1, .ref g2, .int 0])), (s0, .inr (3, [.ref r0, .ref t0, .ref w0, .ref l0, .ref k0, .ref v0, .ref v1, .ref v2, .int 0, .int 0, .int 0, .int 0])), (t0, .inr (4, [.ref u0, .ref u1, .ref u2, .ref u3, .ref u4, .int 0, .int 0, .int 0, .int 1])), (w0, .inr (5, [.ref r0, .ref t0, .ref y0, .ref y1]))] U.heap ∧ va_K (dC, dI) vwCl [] U ∧ va_D (fun _ => True) [(h0, .inr (6, [.ref b0, .ref b1, .ref s0, .ref b3, .int 0, .int 0, .int 0, .int 0])), (b1, .inr (2, [.ref g0, .ref g1, .ref g2, .int 0])), (s0, .inr (3, [.ref r0, .ref t0, .ref w0, .ref l0, .ref k0, .ref v0, .ref v1, .ref v2, .int 0, .int 0, .int 0, .int 0])), (t0, .inr (4, [.ref u0, .ref u1, .ref u2, .ref u3, .ref u4, .int 0, .int 0, .int 0, .int 1])), (w0, .inr (5, [.ref r0, .ref t0, .ref y0, .ref y1]))])) (va_Qi (fun (r : Int32) (_ : Unit) => r = 1) (fun (_ : Unit) t => va_P (dC, dI) vwCl [(w0, .inr (5, [.ref r0, .ref t0, .ref y0, .ref y1])), (t0, .inr (4, [.ref u0, .ref u1, .ref u2, .ref u3, .ref u4, .int 0, .int 0, .int 0, .int 1])), (s0, .inr (3, [.ref r0, .ref t0, .ref w0, .ref l0, .ref k0, .ref v0, .ref v1, .ref v2, .int 0, .int 0, .int 0, .int 0])), (h0, .inr (6, [.ref b0, .ref b1, .ref s0, .ref b3, .int 0, .int 0, .int 1, .int 0])), (b1, .inr (2, [.ref g0, .ref g1, .ref g2, .int 0]))] t.heap ∧ va_K (dC, dI) vwCl [] t ∧ va_D (va_A [(h0, .inr (6, [.ref b0, .ref b1, .ref s0, .ref b3, .int 0, .int 0, .int 0, .int 0])), (b1, .inr (2, [.ref g0, .ref g1, .ref g2, .int 0])), (s0, .inr (3, [.ref r0, .ref t0, .ref w0, .ref l0, .ref k0, .ref v0, .ref v1, .ref v2, .int 0, .int 0, .int 0, .int 0])), (t0, .inr (4, [.ref u0, .ref u1, .ref u2, .ref u3, .ref u4, .int 0, .int 0, .int 0, .int 1])), (w0, .inr (5, [.ref r0, .ref t0, .ref y0, .ref y1]))] sz) [(w0, .inr (5, [.ref r0, .ref t0, .ref y0, .ref y1])), (t0, .inr (4, [.ref u0, .ref u1, .ref u2, .ref u3, .ref u4, .int 0, .int 0, .int 0, .int 1])), (s0, .inr (3, [.ref r0, .ref t0, .ref w0, .ref l0, .ref k0, .ref v0, .ref v1, .ref v2, .int 0, .int 0, .int 0, .int 0])), (h0, .inr (6, [.ref b0, .ref b1, .ref s0, .ref b3, .int 0, .int 0, .int 1, .int 0])), (b1, .inr (2, [.ref g0, .ref g1, .ref g2, .int 0]))]) (va_A [(h0, .inr (6, [.ref b0, .ref b1, .ref s0, .ref b3, .int 0, .int 0, .int 0, .int 0])), (b1, .inr (2, [.ref g0, .ref g1, .ref g2, .int 0])), (s0, .inr (3, [.ref r0, .ref t0, .ref w0, .ref l0, .ref k0, .ref v0, .ref v1, .ref v2, .int 0, .int 0, .int 0, .int 0])), (t0, .inr (4, [.ref u0, .ref u1, .ref u2, .ref u3, .ref u4, .int 0, .int 0, .int 0, .int 1])), (w0, .inr (5, [.ref r0, .ref t0, .ref y0, .ref y1]))] sz)) 0 0 (va_A [(h0, .inr (6, [.ref b0, .ref b1, .ref s0, .ref b3, .int 0, .int 0, .int 0, .int 0])), (b1, .inr (2, [.ref g0, .ref g1, .ref g2, .int 0])), (s0, .inr (3, [.ref r0, .ref t0, .ref w0, .ref l0, .ref k0, .ref v0, .ref v1, .ref v2, .int 0, .int 0, .int 0, .int 0])), (t0, .inr (4, [.ref u0, .ref u1, .ref u2, .ref u3, .ref u4, .int 0, .int 0, .int 0, .int 1])), (w0, .inr (5, [.ref r0, .ref t0, .ref y0, .ref y1]))] sz) := by
  refine Met.ofW (cc := prog_1_method_5_code) (maxL := 1) (ret := (some .boolean)) (by decide) rfl ?_
  intro p e s m args below meth c s₁ B hml hv
  obtain ⟨rfl, hsz, hP, hK, hD0⟩ := hv
  have hx := B.exec
  have hb := B.bytes
  have hr := B.returns
  have hw : ∀ w ∈ bg_W, w.before #[Value.ref h0] s = true := fun w h => atoms_spec (ws := (wq y_Cs_solve prog_1_method_5_code 1 (some .boolean))) B.pre w (List.mem_cons_of_mem _ h)
  have hown : s.vm.findClass R_Cs = some m.cls := findClass_of_methodNamed B.named
  have hlocks := B.notSynchronized
  subst hsz
  have hD := hD0.self (sz := s.heap.size)
  generalize hAe : va_A [(h0, .inr (6, [.ref b0, .ref b1, .ref s0, .ref b3, .int 0, .int 0, .int 0, .int 0])), (b1, .inr (2, [.ref g0, .ref g1, .ref g2, .int 0])), (s0, .inr (3, [.ref r0, .ref t0, .ref w0, .ref l0, .ref k0, .ref v0, .ref v1, .ref v2, .int 0, .int 0, .int 0, .int 0])), (t0, .inr (4, [.ref u0, .ref u1, .ref u2, .ref u3, .ref u4, .int 0, .int 0, .int 0, .int 1])), (w0, .inr (5, [.ref r0, .ref t0, .ref y0, .ref y1]))] s.heap.size = A at hD ⊢
  have hA : ∀ q : Nat, s.heap.size ≤ q → A q := fun q h => by rw [← hAe]; exact Or.inr h
  have hS : va_S A s.heap s.heap [] := va_S.rf
  have hP : va_P (dC, dI) vwCl [(h0, .inr (6, [.ref b0, .ref b1, .ref s0, .ref b3, .int 0, .int 0, .int 0, .int 0])), (b1, .inr (2, [.ref g0, .ref g1, .ref g2, .int 0])), (s0, .inr (3, [.ref r0, .ref t0, .ref w0, .ref l0, .ref k0, .ref v0, .ref v1, .ref v2, .int 0, .int 0, .int 0, .int 0])), (t0, .inr (4, [.ref u0, .ref u1, .ref u2, .ref u3, .ref u4, .int 0, .int 0, .int 0, .int 1])), (w0, .inr (5, [.ref r0, .ref t0, .ref y0, .ref y1]))] s.heap := hP
  have hl := lv_entry ([.ref h0]) (n := 1) (Nat.le_of_ble_eq_true rfl)
  rw [lg_entry_eq]
  generalize (lg_sl ([.ref h0]) ++ List.replicate (1 - (lg_sl ([.ref h0])).length) Slot.unset).toArray = ls at hl ⊢
  have hl : lv_has ls 1 [(0, .ref h0)] := hl
  obtain ⟨H, hH⟩ : ∃ H : Heap, H = s.heap := ⟨_, rfl⟩
  rw [← hH] at hP
  have hS : va_S A s.heap H [] := by rw [hH]; exact va_S.rf
  show W p l e _ s m _ below meth c s.heap [] 0 0 _ _
  rw [← hH]
  refine lv_aload_n hx hb d_Cs_solve_0 rfl (lv_at hl 0 rfl) ?_
  refine lv_aload_n hx hb d_Cs_solve_1 rfl (lv_at hl 0 rfl) ?_
  refine va_get (D := (dC, dI)) (ci := 6) (v := .ref s0) (C := R_Cs) (T := F_Cs) (N := 8) hx hb hw in_Cs hown hK hP 0 rfl rfl 2 (by decide) (hw (Cond.fieldLink "ClauseSearch" 28 "ClauseSearch" "search" "LClauseSearch$Search;") k_257) (fun _ h9 => h9) rfl d_Cs_solve_2 ?_
  refine lv_aload_n hx hb d_Cs_solve_5 rfl (lv_at hl 0 rfl) ?_
  refine va_get (D := (dC, dI)) (ci := 6) (v := .int 0) (C := R_Cs) (T := F_Cs) (N := 8) hx hb hw in_Cs hown hK hP 0 rfl rfl 5 (by decide) (hw (Cond.fieldLink "ClauseSearch" 43 "ClauseSearch" "variableCount" "I") k_260) (fun _ h9 => h9) rfl d_Cs_solve_6 ?_
  refine lv_aload_n hx hb d_Cs_solve_9 rfl (lv_at hl 0 rfl) ?_
  refine va_get (D := (dC, dI)) (ci := 6) (v := .ref b0) (C := R_Cs) (T := F_Cs) (N := 8) hx hb hw in_Cs hown hK hP 0 rfl rfl 0 (by decide) (hw (Cond.fieldLink "ClauseSearch" 9 "ClauseSearch" "row" "[I") k_255) (fun _ h9 => h9) rfl d_Cs_solve_10 ?_
  refine lv_aload_n hx hb d_Cs_solve_13 rfl (lv_at hl 0 rfl) ?_
  refine va_get (D := (dC, dI)) (ci := 6) (v := .int 0) (C := R_Cs) (T := F_Cs) (N := 8) hx hb hw in_Cs hown hK hP 0 rfl rfl 4 (by decide) (hw (Cond.fieldLink "ClauseSearch" 58 "ClauseSearch" "rowSize" "I") k_259) (fun _ h9 => h9) rfl d_Cs_solve_14 ?_
  have hPc := hP.sub (ws' := [(s0, .inr (3, [.ref r0, .ref t0, .ref w0, .ref l0, .ref k0, .ref v0, .ref v1, .ref v2, .int 0, .int 0, .int 0, .int 0])), (t0, .inr (4, [.ref u0, .ref u1, .ref u2, .ref u3, .ref u4, .int 0, .int 0, .int 0, .int 1])), (w0, .inr (5, [.ref r0, .ref t0, .ref y0, .ref y1]))]) [2, 3, 4] rfl
  have hDc := hD.sub (ws' := [(s0, .inr (3, [.ref r0, .ref t0, .ref w0, .ref l0, .ref k0, .ref v0, .ref v1, .ref v2, .int 0, .int 0, .int 0, .int 0])), (t0, .inr (4, [.ref u0, .ref u1, .ref u2, .ref u3, .ref u4, .int 0, .int 0, .int 0, .int 1])), (w0, .inr (5, [.ref r0, .ref t0, .ref y0, .ref y1]))]) [2, 3, 4] (by decide) rfl
  have hKc := hK.sub (tys' := []) [] rfl
  have hFc := va_free (wc := [(s0, .inr (3, [.ref r0, .ref t0, .ref w0, .ref l0, .ref k0, .ref v0, .ref v1, .ref v2, .int 0, .int 0, .int 0, .int 0])), (t0, .inr (4, [.ref u0, .ref u1, .ref u2, .ref u3, .ref u4, .int 0, .int 0, .int 0, .int 1])), (w0, .inr (5, [.ref r0, .ref t0, .ref y0, .ref y1]))]) hD hS hA [2, 3, 4] rfl
  refine va_calli (va_runV (As := [.int 0, .ref b0, .int 0]) (rest := [.ref h0]) ⟨hx, hb, hml, hown, hw⟩ (c_Sr_findLeast_0 l dC dI s0 r0 t0 w0 l0 k0 v0 v1 v2 u0 u1 u2 u3 u4 y0 y1 b0 H.size) (cb_V (C := R_Sr) 3 hw k_287 k_31 k_284 k_285 k_286 rfl rfl (by decide +kernel) ⟨Nat.le_of_ble_eq_true rfl, Nat.le_of_ble_eq_true rfl⟩) ⟨fun a U g mk q => by obtain ⟨q0, q1, qP, qK, qD⟩ := q; exact ⟨q0, q1, qP, va_K.moved (u := U) (U := U.calling g mk a) (Vm.Alike.refl U.vm) qK, qD⟩, va_recv hKc hPc (ci := 3) (q0 := 0) rfl rfl, fun U hU hW => ⟨rfl, by rw [hU], by rw [hU]; exact hPc, va_K.moved hW.alike hKc, hDc.weaken (fun _ _ _ _ => trivial)⟩⟩ rfl rfl hl.1 rfl (lv_room (Nat.le_of_ble_eq_true rfl)) d_Cs_solve_17 ⟨Nat.le_of_ble_eq_true rfl, Nat.le_of_ble_eq_true rfl⟩) hS (fun q _ h => hFc q h) hFc (fun r_1 u t H1 locs ht hvm hw9 hB hz1 hk1 hS => ?_)
  obtain ⟨hP1, hK1, hD1⟩ := hB
  rw [ht] at hP1
  have hK1 := va_K.moved hvm.symm hK1
  obtain ⟨hP, hD⟩ := va_join (wr := [(h0, .inr (6, [.ref b0, .ref b1, .ref s0, .ref b3, .int 0, .int 0, .int 0, .int 0])), (b1, .inr (2, [.ref g0, .ref g1, .ref g2, .int 0]))]) (w1 := [(w0, .inr (5, [.ref r0, .ref t0, .ref y0, .ref y1])), (s0, .inr (3, [.ref r0, .ref t0, .ref w0, .ref l0, .ref k0, .ref v0, .ref v1, .ref v2, .int 0, .int 0, .int 0, .int 0])), (t0, .inr (4, [.ref u0, .ref u1, .ref u2, .ref u3, .ref u4, .int 0, .int 0, .int 0, .int 1]))]) hP hD [2, 3, 4] [0, 1] rfl rfl (by decide) (by decide) hk1 hFc hP1 hD1
  generalize H1 = H at hP hS ⊢
  have hP : va_P (dC, dI) vwCl [(h0, .inr (6, [.ref b0, .ref b1, .ref s0, .ref b3, .int 0, .int 0, .int 0, .int 0])), (b1, .inr (2, [.ref g0, .ref g1, .ref g2, .int 0])), (w0, .inr (5, [.ref r0, .ref t0, .ref y0, .ref y1])), (s0, .inr (3, [.ref r0, .ref t0, .ref w0, .ref l0, .ref k0, .ref v0, .ref v1, .ref v2, .int 0, .int 0, .int 0, .int 0])), (t0, .inr (4, [.ref u0, .ref u1, .ref u2, .ref u3, .ref u4, .int 0, .int 0, .int 0, .int 1]))] H := hP
  have hD : va_D A [(h0, .inr (6, [.ref b0, .ref b1, .ref s0, .ref b3, .int 0, .int 0, .int 0, .int 0])), (b1, .inr (2, [.ref g0, .ref g1, .ref g2, .int 0])), (w0, .inr (5, [.ref r0, .ref t0, .ref y0, .ref y1])), (s0, .inr (3, [.ref r0, .ref t0, .ref w0, .ref l0, .ref k0, .ref v0, .ref v1, .ref v2, .int 0, .int 0, .int 0, .int 0])), (t0, .inr (4, [.ref u0, .ref u1, .ref u2, .ref u3, .ref u4, .int 0, .int 0, .int 0, .int 1]))] := hD
  refine W.widen (k := 0) (n := 0) (by decide) (by decide) ?_
  have hw9 : r_1 = 1 := hw9
  subst hw9
  refine lv_if_eq (tgt := 34) hx hb d_Cs_solve_20 (by decide) (fun c_20 => absurd c_20 (by decide)) (fun c_20 => ?_)
  refine lv_aload_n hx hb d_Cs_solve_23 rfl (lv_at hl 0 rfl) ?_
  have hPc := hP.sub (ws' := [(h0, .inr (6, [.ref b0, .ref b1, .ref s0, .ref b3, .int 0, .int 0, .int 0, .int 0])), (b1, .inr (2, [.ref g0, .ref g1, .ref g2, .int 0])), (s0, .inr (3, [.ref r0, .ref t0, .ref w0, .ref l0, .ref k0, .ref v0, .ref v1, .ref v2, .int 0, .int 0, .int 0, .int 0]))]) [0, 1, 3] rfl
  have hDc := hD.sub (ws' := [(h0, .inr (6, [.ref b0, .ref b1, .ref s0, .ref b3, .int 0, .int 0, .int 0, .int 0])), (b1, .inr (2, [.ref g0, .ref g1, .ref g2, .int 0])), (s0, .inr (3, [.ref r0, .ref t0, .ref w0, .ref l0, .ref k0, .ref v0, .ref v1, .ref v2, .int 0, .int 0, .int 0, .int 0]))]) [0, 1, 3] (by decide) rfl
  have hKc := hK.sub (tys' := []) [] rfl
  have hFc := va_free (wc := [(h0, .inr (6, [.ref b0, .ref b1, .ref s0, .ref b3, .int 0, .int 0, .int 0, .int 0])), (b1, .inr (2, [.ref g0, .ref g1, .ref g2, .int 0])), (s0, .inr (3, [.ref r0, .ref t0, .ref w0, .ref l0, .ref k0, .ref v0, .ref v1, .ref v2, .int 0, .int 0, .int 0, .int 0]))]) hD hS hA [0, 1, 3] rfl
  refine va_calli (va_runV (As := []) (rest := [.ref h0]) ⟨hx, hb, hml, hown, hw⟩ (c_Cs_takeWay_0 l dC dI h0 b0 b1 s0 b3 g0 g1 g2 r0 t0 w0 l0 k0 v0 v1 v2 H.size) (cb_V (C := R_Cs) 0 hw k_428 k_29 k_425 k_427 k_15 rfl rfl (by decide +kernel) ⟨Nat.le_of_ble_eq_true rfl, Nat.le_of_ble_eq_true rfl⟩) ⟨fun a U g mk q => by obtain ⟨q0, q1, qP, qK, qD⟩ := q; exact ⟨q0, q1, qP, va_K.moved (u := U) (U := U.calling g mk a) (Vm.Alike.refl U.vm) qK, qD⟩, va_recv hKc hPc (ci := 6) (q0 := 0) rfl rfl, fun U hU hW => ⟨rfl, by rw [hU], by rw [hU]; exact hPc, va_K.moved hW.alike hKc, hDc.weaken (fun _ _ _ _ => trivial)⟩⟩ rfl rfl hl.1 rfl (lv_room (Nat.le_of_ble_eq_true rfl)) d_Cs_solve_24 ⟨Nat.le_of_ble_eq_true rfl, Nat.le_of_ble_eq_true rfl⟩) hS (fun q _ h => hFc q h) hFc (fun r_2 u t H1 locs ht hvm hw9 hB hz1 hk1 hS => ?_)
  obtain ⟨hP1, hK1, hD1⟩ := hB
  rw [ht] at hP1
  have hK1 := va_K.moved hvm.symm hK1
  obtain ⟨hP, hD⟩ := va_join (wr := [(w0, .inr (5, [.ref r0, .ref t0, .ref y0, .ref y1])), (t0, .inr (4, [.ref u0, .ref u1, .ref u2, .ref u3, .ref u4, .int 0, .int 0, .int 0, .int 1]))]) (w1 := [(s0, .inr (3, [.ref r0, .ref t0, .ref w0, .ref l0, .ref k0, .ref v0, .ref v1, .ref v2, .int 0, .int 0, .int 0, .int 0])), (h0, .inr (6, [.ref b0, .ref b1, .ref s0, .ref b3, .int 0, .int 0, .int 0, .int 0])), (b1, .inr (2, [.ref g0, .ref g1, .ref g2, .int 0]))]) hP hD [0, 1, 3] [2, 4] rfl rfl (by decide) (by decide) hk1 hFc hP1 hD1
  generalize H1 = H at hP hS ⊢
  have hP : va_P (dC, dI) vwCl [(w0, .inr (5, [.ref r0, .ref t0, .ref y0, .ref y1])), (t0, .inr (4, [.ref u0, .ref u1, .ref u2, .ref u3, .ref u4, .int 0, .int 0, .int 0, .int 1])), (s0, .inr (3, [.ref r0, .ref t0, .ref w0, .ref l0, .ref k0, .ref v0, .ref v1, .ref v2, .int 0, .int 0, .int 0, .int 0])), (h0, .inr (6, [.ref b0, .ref b1, .ref s0, .ref b3, .int 0, .int 0, .int 0, .int 0])), (b1, .inr (2, [.ref g0, .ref g1, .ref g2, .int 0]))] H := hP
  have hD : va_D A [(w0, .inr (5, [.ref r0, .ref t0, .ref y0, .ref y1])), (t0, .inr (4, [.ref u0, .ref u1, .ref u2, .ref u3, .ref u4, .int 0, .int 0, .int 0, .int 1])), (s0, .inr (3, [.ref r0, .ref t0, .ref w0, .ref l0, .ref k0, .ref v0, .ref v1, .ref v2, .int 0, .int 0, .int 0, .int 0])), (h0, .inr (6, [.ref b0, .ref b1, .ref s0, .ref b3, .int 0, .int 0, .int 0, .int 0])), (b1, .inr (2, [.ref g0, .ref g1, .ref g2, .int 0]))] := hD
  refine W.widen (k := 0) (n := 0) (by decide) (by decide) ?_
  have hw9 : r_2 = 1 := hw9
  subst hw9
  refine lv_if_eq (tgt := 34) hx hb d_Cs_solve_27 (by decide) (fun c_27 => absurd c_27 (by decide)) (fun c_27 => ?_)
  refine lv_iconst (v := 1) hx hb d_Cs_solve_30 (by decide) ?_
  refine lv_goto (tgt := 35) hx hb d_Cs_solve_31 (by decide) ?_
  refine va_put (D := (dC, dI)) (ci := 6) (v := .int 1) (ty := .boolean) (C := R_Cs) (T := F_Cs) (N := 8) hx hb hw in_Cs t_Cs t_Cs_ok n_Cs hown hK hP hD hS 3 rfl rfl 6 (by decide) (hw (Cond.fieldLink "ClauseSearch" 52 "ClauseSearch" "wayStands" "Z") k_261) (fun _ h9 => h9) rfl (by decide +kernel) rfl rfl (Nat.le_of_ble_eq_true rfl) d_Cs_solve_35 (fun H locs hP hD hS => ?_)
  have hP : va_P (dC, dI) vwCl [(w0, .inr (5, [.ref r0, .ref t0, .ref y0, .ref y1])), (t0, .inr (4, [.ref u0, .ref u1, .ref u2, .ref u3, .ref u4, .int 0, .int 0, .int 0, .int 1])), (s0, .inr (3, [.ref r0, .ref t0, .ref w0, .ref l0, .ref k0, .ref v0, .ref v1, .ref v2, .int 0, .int 0, .int 0, .int 0])), (h0, .inr (6, [.ref b0, .ref b1, .ref s0, .ref b3, .int 0, .int 0, .int 1, .int 0])), (b1, .inr (2, [.ref g0, .ref g1, .ref g2, .int 0]))] H := hP
  have hD : va_D A [(w0, .inr (5, [.ref r0, .ref t0, .ref y0, .ref y1])), (t0, .inr (4, [.ref u0, .ref u1, .ref u2, .ref u3, .ref u4, .int 0, .int 0, .int 0, .int 1])), (s0, .inr (3, [.ref r0, .ref t0, .ref w0, .ref l0, .ref k0, .ref v0, .ref v1, .ref v2, .int 0, .int 0, .int 0, .int 0])), (h0, .inr (6, [.ref b0, .ref b1, .ref s0, .ref b3, .int 0, .int 0, .int 1, .int 0])), (b1, .inr (2, [.ref g0, .ref g1, .ref g2, .int 0]))] := hD
  refine lv_aload_n hx hb d_Cs_solve_38 rfl (lv_at hl 0 rfl) ?_
  refine lv_iconst (v := 0) hx hb d_Cs_solve_39 (by decide) ?_
  refine va_put (D := (dC, dI)) (ci := 6) (v := .int 0) (ty := .int) (C := R_Cs) (T := F_Cs) (N := 8) hx hb hw in_Cs t_Cs t_Cs_ok n_Cs hown hK hP hD hS 3 rfl rfl 4 (by decide) (hw (Cond.fieldLink "ClauseSearch" 58 "ClauseSearch" "rowSize" "I") k_259) (fun _ h9 => h9) rfl (by decide +kernel) rfl rfl (Nat.le_of_ble_eq_true rfl) d_Cs_solve_40 (fun H locs hP hD hS => ?_)
  have hP : va_P (dC, dI) vwCl [(w0, .inr (5, [.ref r0, .ref t0, .ref y0, .ref y1])), (t0, .inr (4, [.ref u0, .ref u1, .ref u2, .ref u3, .ref u4, .int 0, .int 0, .int 0, .int 1])), (s0, .inr (3, [.ref r0, .ref t0, .ref w0, .ref l0, .ref k0, .ref v0, .ref v1, .ref v2, .int 0, .int 0, .int 0, .int 0])), (h0, .inr (6, [.ref b0, .ref b1, .ref s0, .ref b3, .int 0, .int 0, .int 1, .int 0])), (b1, .inr (2, [.ref g0, .ref g1, .ref g2, .int 0]))] H := hP
  have hD : va_D A [(w0, .inr (5, [.ref r0, .ref t0, .ref y0, .ref y1])), (t0, .inr (4, [.ref u0, .ref u1, .ref u2, .ref u3, .ref u4, .int 0, .int 0, .int 0, .int 1])), (s0, .inr (3, [.ref r0, .ref t0, .ref w0, .ref l0, .ref k0, .ref v0, .ref v1, .ref v2, .int 0, .int 0, .int 0, .int 0])), (h0, .inr (6, [.ref b0, .ref b1, .ref s0, .ref b3, .int 0, .int 0, .int 1, .int 0])), (b1, .inr (2, [.ref g0, .ref g1, .ref g2, .int 0]))] := hD
  refine lv_aload_n hx hb d_Cs_solve_43 rfl (lv_at hl 0 rfl) ?_
  refine va_get (D := (dC, dI)) (ci := 6) (v := .int 1) (C := R_Cs) (T := F_Cs) (N := 8) hx hb hw in_Cs hown hK hP 3 rfl rfl 6 (by decide) (hw (Cond.fieldLink "ClauseSearch" 52 "ClauseSearch" "wayStands" "Z") k_261) (fun _ h9 => h9) rfl d_Cs_solve_44 ?_
  refine W.widen (k := 0) (n := 0) (by decide) (by decide) ?_
  exact W.zret (v := 1) hx hb hr rfl (fun t ht hW => ⟨⟨1, (), rfl, rfl, by rw [ht]; exact hP, va_K.moved hW.alike hK, hD⟩, hS.F ht⟩) hS.2.2 d_Cs_solve_47

set_option maxHeartbeats 4000000 in
set_option maxRecDepth 100000 in
/-- count(what) of a new object -/
theorem c_Cs_count_0 (l : Launch) (dC : Nat → ClassId) (dI : Nat → Nat → Nat) (h0 : Nat) (b0 : Nat) (b1 : Nat) (s0 : Nat) (b3 : Nat) (g0 : Nat) (g1 : Nat) (g2 : Nat) (r0 : Nat) (t0 : Nat) (w0 : Nat) (l0 : Nat) (k0 : Nat) (v0 : Nat) (v1 : Nat) (v2 : Nat) (sz : Nat) (p0 : Int32) (h1 : ¬ p0.toInt < 0) (h2 : ¬ 5 < p0.toInt) : Met l y_Cs_count (wq y_Cs_count prog_1_method_7_code 2 (some .int)) ({ frames := 0, cells := 0, slots := 0, locals := 0 }) (va_Pc [.ref h0, .int p0] (fun U => U.heap.size = sz ∧ va_P (dC, dI) vwCl [(h0, .inr (6, [.ref b0, .ref b1, .ref s0, .ref b3, .int 0, .int 0, .int 0, .int 0])), (b1, .inr (2, [.ref g0, .ref g1, .ref g2, .int 0])), (s0, .inr (3, [.ref r0, .ref t0, .ref w0, .ref l0, .ref k0, .ref v0, .ref v1, .ref v2, .int 0, .int 0, .int 0, .int 0]))] U.heap ∧ va_K (dC, dI) vwCl [] U ∧ va_D (fun _ => True) [(h0, .inr (6, [.ref b0, .ref b1, .ref s0, .ref b3, .int 0, .int 0, .int 0, .int 0])), (b1, .inr (2, [.ref g0, .ref g1, .ref g2, .int 0])), (s0, .inr (3, [.ref r0, .ref t0, .ref w0, .ref l0, .ref k0, .ref v0, .ref v1, .ref v2, .int 0, .int 0, .int 0, .int 0]))])) (va_Qi (fun (r : Int32) (_ : Unit) => r = 0) (fun (_ : Unit) t => va_P (dC, dI) vwCl [(h0, .inr (6, [.ref b0, .ref b1, .ref s0, .ref b3, .int 0, .int 0, .int 0, .int 0])), (b1, .inr (2, [.ref g0, .ref g1, .ref g2, .int 0])), (s0, .inr (3, [.ref r0, .ref t0, .ref w0, .ref l0, .ref k0, .ref v0, .ref v1, .ref v2, .int 0, .int 0, .int 0, .int 0]))] t.heap ∧ va_K (dC, dI) vwCl [] t ∧ va_D (va_A [(h0, .inr (6, [.ref b0, .ref b1, .ref s0, .ref b3, .int 0, .int 0, .int 0, .int 0])), (b1, .inr (2, [.ref g0, .ref g1, .ref g2, .int 0])), (s0, .inr (3, [.ref r0, .ref t0, .ref w0, .ref l0, .ref k0, .ref v0, .ref v1, .ref v2, .int 0, .int 0, .int 0, .int 0]))] sz) [(h0, .inr (6, [.ref b0, .ref b1, .ref s0, .ref b3, .int 0, .int 0, .int 0, .int 0])), (b1, .inr (2, [.ref g0, .ref g1, .ref g2, .int 0])), (s0, .inr (3, [.ref r0, .ref t0, .ref w0, .ref l0, .ref k0, .ref v0, .ref v1, .ref v2, .int 0, .int 0, .int 0, .int 0]))]) (va_A [(h0, .inr (6, [.ref b0, .ref b1, .ref s0, .ref b3, .int 0, .int 0, .int 0, .int 0])), (b1, .inr (2, [.ref g0, .ref g1, .ref g2, .int 0])), (s0, .inr (3, [.ref r0, .ref t0, .ref w0, .ref l0, .ref k0, .ref v0, .ref v1, .ref v2, .int 0, .int 0, .int 0, .int 0]))] sz)) 0 0 (va_A [(h0, .inr (6, [.ref b0, .ref b1, .ref s0, .ref b3, .int 0, .int 0, .int 0, .int 0])), (b1, .inr (2, [.ref g0, .ref g1, .ref g2, .int 0])), (s0, .inr (3, [.ref r0, .ref t0, .ref w0, .ref l0, .ref k0, .ref v0, .ref v1, .ref v2, .int 0, .int 0, .int 0, .int 0]))] sz) := by
  refine Met.ofW (cc := prog_1_method_7_code) (maxL := 2) (ret := (some .int)) (by decide) rfl ?_
  intro p e s m args below meth c s₁ B hml hv
  obtain ⟨rfl, hsz, hP, hK, hD0⟩ := hv
  have hx := B.exec
  have hb := B.bytes
  have hr := B.returns
  have hw : ∀ w ∈ bg_W, w.before #[Value.ref h0, Value.int p0] s = true := fun w h => atoms_spec (ws := (wq y_Cs_count prog_1_method_7_code 2 (some .int))) B.pre w (List.mem_cons_of_mem _ h)
  have hown : s.vm.findClass R_Cs = some m.cls := findClass_of_methodNamed B.named
  have hlocks := B.notSynchronized
  subst hsz
  have hD := hD0.self (sz := s.heap.size)
  generalize hAe : va_A [(h0, .inr (6, [.ref b0, .ref b1, .ref s0, .ref b3, .int 0, .int 0, .int 0, .int 0])), (b1, .inr (2, [.ref g0, .ref g1, .ref g2, .int 0])), (s0, .inr (3, [.ref r0, .ref t0, .ref w0, .ref l0, .ref k0, .ref v0, .ref v1, .ref v2, .int 0, .int 0, .int 0, .int 0]))] s.heap.size = A at hD ⊢
  have hA : ∀ q : Nat, s.heap.size ≤ q → A q := fun q h => by rw [← hAe]; exact Or.inr h
  have hS : va_S A s.heap s.heap [] := va_S.rf
  have hP : va_P (dC, dI) vwCl [(h0, .inr (6, [.ref b0, .ref b1, .ref s0, .ref b3, .int 0, .int 0, .int 0, .int 0])), (b1, .inr (2, [.ref g0, .ref g1, .ref g2, .int 0])), (s0, .inr (3, [.ref r0, .ref t0, .ref w0, .ref l0, .ref k0, .ref v0, .ref v1, .ref v2, .int 0, .int 0, .int 0, .int 0]))] s.heap := hP
  have hl := lv_entry ([.ref h0, .int p0]) (n := 2) (Nat.le_of_ble_eq_true rfl)
  rw [lg_entry_eq]
  generalize (lg_sl ([.ref h0, .int p0]) ++ List.replicate (2 - (lg_sl ([.ref h0, .int p0])).length) Slot.unset).toArray = ls at hl ⊢
  have hl : lv_has ls 2 [(0, .ref h0), (1, .int p0)] := hl
  obtain ⟨H, hH⟩ : ∃ H : Heap, H = s.heap := ⟨_, rfl⟩
  rw [← hH] at hP
  have hS : va_S A s.heap H [] := by rw [hH]; exact va_S.rf
  show W p l e _ s m _ below meth c s.heap [] 0 0 _ _
  rw [← hH]
  refine lv_iload_n hx hb d_Cs_count_0 rfl (lv_at hl 1 rfl) ?_
  obtain rfl | rfl | rfl | rfl | rfl | rfl := sw_6 h1 h2
  · refine lv_tableIn (tgt := 40) hx hb d_Cs_count_1 (by decide) (by decide) (off := 39) (by decide) (by decide) ?_
    refine lv_aload_n hx hb d_Cs_count_40 rfl (lv_at hl 0 rfl) ?_
    refine va_get (D := (dC, dI)) (ci := 6) (v := .int 0) (C := R_Cs) (T := F_Cs) (N := 8) hx hb hw in_Cs hown hK hP 0 rfl rfl 5 (by decide) (hw (Cond.fieldLink "ClauseSearch" 43 "ClauseSearch" "variableCount" "I") k_260) (fun _ h9 => h9) rfl d_Cs_count_41 ?_
    refine W.widen (k := 0) (n := 0) (by decide) (by decide) ?_
    exact W.iret (v := 0) hx hb hr (fun t ht hW => ⟨⟨0, (), rfl, rfl, by rw [ht]; exact hP, va_K.moved hW.alike hK, hD⟩, hS.F ht⟩) hS.2.2 d_Cs_count_44
  · refine lv_tableIn (tgt := 45) hx hb d_Cs_count_1 (by decide) (by decide) (off := 44) (by decide) (by decide) ?_
    refine lv_aload_n hx hb d_Cs_count_45 rfl (lv_at hl 0 rfl) ?_
    refine va_get (D := (dC, dI)) (ci := 6) (v := .ref b1) (C := R_Cs) (T := F_Cs) (N := 8) hx hb hw in_Cs hown hK hP 0 rfl rfl 1 (by decide) (hw (Cond.fieldLink "ClauseSearch" 16 "ClauseSearch" "clauses" "LClauseSearch$Rows;") k_256) (fun _ h9 => h9) rfl d_Cs_count_46 ?_
    refine va_getN (D := (dC, dI)) (ci := 2) (v := .int 0) (C := R_Rw) (T := F_Rw) (N := 4) hx hb hw in_Rw hown hK hP 1 rfl rfl 3 (by decide) (hw (Cond.fieldLinkNest "ClauseSearch" 68 "ClauseSearch$Rows" "size" "I" "ClauseSearch") k_76) (fun _ h9 => h9) rfl d_Cs_count_49 ?_
    refine W.widen (k := 0) (n := 0) (by decide) (by decide) ?_
    exact W.iret (v := 0) hx hb hr (fun t ht hW => ⟨⟨0, (), rfl, rfl, by rw [ht]; exact hP, va_K.moved hW.alike hK, hD⟩, hS.F ht⟩) hS.2.2 d_Cs_count_52
  · refine lv_tableIn (tgt := 53) hx hb d_Cs_count_1 (by decide) (by decide) (off := 52) (by decide) (by decide) ?_
    refine lv_aload_n hx hb d_Cs_count_53 rfl (lv_at hl 0 rfl) ?_
    refine va_get (D := (dC, dI)) (ci := 6) (v := .int 0) (C := R_Cs) (T := F_Cs) (N := 8) hx hb hw in_Cs hown hK hP 0 rfl rfl 4 (by decide) (hw (Cond.fieldLink "ClauseSearch" 58 "ClauseSearch" "rowSize" "I") k_259) (fun _ h9 => h9) rfl d_Cs_count_54 ?_
    refine W.widen (k := 0) (n := 0) (by decide) (by decide) ?_
    exact W.iret (v := 0) hx hb hr (fun t ht hW => ⟨⟨0, (), rfl, rfl, by rw [ht]; exact hP, va_K.moved hW.alike hK, hD⟩, hS.F ht⟩) hS.2.2 d_Cs_count_57
  · refine lv_tableIn (tgt := 58) hx hb d_Cs_count_1 (by decide) (by decide) (off := 57) (by decide) (by decide) ?_
    refine lv_aload_n hx hb d_Cs_count_58 rfl (lv_at hl 0 rfl) ?_
    refine va_get (D := (dC, dI)) (ci := 6) (v := .int 0) (C := R_Cs) (T := F_Cs) (N := 8) hx hb hw in_Cs hown hK hP 0 rfl rfl 6 (by decide) (hw (Cond.fieldLink "ClauseSearch" 52 "ClauseSearch" "wayStands" "Z") k_261) (fun _ h9 => h9) rfl d_Cs_count_59 ?_
    refine lv_if_eq (tgt := 69) hx hb d_Cs_count_62 (by decide) (fun c_62 => ?_) (fun c_62 => absurd c_62 (by decide))
    refine lv_iconst (v := 0) hx hb d_Cs_count_69 (by decide) ?_
    refine W.widen (k := 0) (n := 0) (by decide) (by decide) ?_
    exact W.iret (v := 0) hx hb hr (fun t ht hW => ⟨⟨0, (), rfl, rfl, by rw [ht]; exact hP, va_K.moved hW.alike hK, hD⟩, hS.F ht⟩) hS.2.2 d_Cs_count_70
  · refine lv_tableIn (tgt := 71) hx hb d_Cs_count_1 (by decide) (by decide) (off := 70) (by decide) (by decide) ?_
    refine lv_aload_n hx hb d_Cs_count_71 rfl (lv_at hl 0 rfl) ?_
    refine va_get (D := (dC, dI)) (ci := 6) (v := .ref s0) (C := R_Cs) (T := F_Cs) (N := 8) hx hb hw in_Cs hown hK hP 0 rfl rfl 2 (by decide) (hw (Cond.fieldLink "ClauseSearch" 28 "ClauseSearch" "search" "LClauseSearch$Search;") k_257) (fun _ h9 => h9) rfl d_Cs_count_72 ?_
    refine va_getN (D := (dC, dI)) (ci := 3) (v := .int 0) (C := R_Sr) (T := F_Sr) (N := 12) hx hb hw in_Sr hown hK hP 2 rfl rfl 10 (by decide) (hw (Cond.fieldLinkNest "ClauseSearch" 93 "ClauseSearch$Search" "badLessons" "I" "ClauseSearch") k_227) (fun _ h9 => h9) rfl d_Cs_count_75 ?_
    refine W.widen (k := 0) (n := 0) (by decide) (by decide) ?_
    exact W.iret (v := 0) hx hb hr (fun t ht hW => ⟨⟨0, (), rfl, rfl, by rw [ht]; exact hP, va_K.moved hW.alike hK, hD⟩, hS.F ht⟩) hS.2.2 d_Cs_count_78
  · refine lv_tableIn (tgt := 79) hx hb d_Cs_count_1 (by decide) (by decide) (off := 78) (by decide) (by decide) ?_
    refine lv_aload_n hx hb d_Cs_count_79 rfl (lv_at hl 0 rfl) ?_
    refine va_get (D := (dC, dI)) (ci := 6) (v := .int 0) (C := R_Cs) (T := F_Cs) (N := 8) hx hb hw in_Cs hown hK hP 0 rfl rfl 7 (by decide) (hw (Cond.fieldLink "ClauseSearch" 96 "ClauseSearch" "badWays" "I") k_262) (fun _ h9 => h9) rfl d_Cs_count_80 ?_
    refine W.widen (k := 0) (n := 0) (by decide) (by decide) ?_
    exact W.iret (v := 0) hx hb hr (fun t ht hW => ⟨⟨0, (), rfl, rfl, by rw [ht]; exact hP, va_K.moved hW.alike hK, hD⟩, hS.F ht⟩) hS.2.2 d_Cs_count_83
end
section
abbrev y_Md_thrown : MethodName := ⟨"ClauseSearchModel", "thrown", "()I"⟩
abbrev y_Md_good : MethodName := ⟨"ClauseSearchModel", "good", "(ZI)Z"⟩
abbrev y_Md_variables : MethodName := ⟨"ClauseSearchModel", "variables", "(I)I"⟩
abbrev y_Md_give : MethodName := ⟨"ClauseSearchModel", "give", "(I)I"⟩
abbrev y_Md_clause : MethodName := ⟨"ClauseSearchModel", "clause", "()I"⟩
abbrev y_Md_value : MethodName := ⟨"ClauseSearchModel", "value", "(I)Z"⟩
abbrev y_Md_count : MethodName := ⟨"ClauseSearchModel", "count", "(I)I"⟩
theorem k_21 : (Cond.selects "ClauseSearchModel" ⟨"ClauseSearchModel", "good", "(ZI)Z"⟩ ⟨"ClauseSearchModel", "good", "(ZI)Z"⟩) ∈ bg_W := bg_in 21 (by decide +kernel) (by decide +kernel)
theorem k_37 : (Cond.initialized "ClauseSearchModel") ∈ bg_W := bg_in 37 (by decide +kernel) (by decide +kernel)
theorem k_609 : (Cond.fieldLink "ClauseSearchModel" 43 "ClauseSearchModel" "variables" "I") ∈ bg_W := bg_in 609 (by decide +kernel) (by decide +kernel)
theorem k_610 : (Cond.fieldLink "ClauseSearchModel" 53 "ClauseSearchModel" "clauses" "I") ∈ bg_W := bg_in 610 (by decide +kernel) (by decide +kernel)
theorem k_611 : (Cond.fieldLink "ClauseSearchModel" 50 "ClauseSearchModel" "given" "I") ∈ bg_W := bg_in 611 (by decide +kernel) (by decide +kernel)
theorem k_613 : (Cond.fieldLink "ClauseSearchModel" 46 "ClauseSearchModel" "stands" "Z") ∈ bg_W := bg_in 613 (by decide +kernel) (by decide +kernel)
theorem k_614 : (Cond.fieldLink "ClauseSearchModel" 35 "ClauseSearchModel" "code" "I") ∈ bg_W := bg_in 614 (by decide +kernel) (by decide +kernel)
theorem k_658 : (Cond.methodLink "ClauseSearchModel" 39 ⟨"ClauseSearchModel", "good", "(ZI)Z"⟩) ∈ bg_W := bg_in 658 (by decide +kernel) (by decide +kernel)
theorem k_660 : (Cond.instanceMethod ⟨"ClauseSearchModel", "good", "(ZI)Z"⟩) ∈ bg_W := bg_in 660 (by decide +kernel) (by decide +kernel)
theorem k_661 : (Cond.code ⟨"ClauseSearchModel", "good", "(ZI)Z"⟩ prog_9_method_3_code 3 (some .boolean)) ∈ bg_W := bg_in 661 (by decide +kernel) (by decide +kernel)
theorem d_Md_thrown_0 : decode prog_9_method_2_code 0 = .ok (.aload_n 0, 1) := by decide +kernel
theorem d_Md_thrown_1 : decode prog_9_method_2_code 1 = .ok (.getfield 35, 3) := by decide +kernel
theorem d_Md_thrown_4 : decode prog_9_method_2_code 4 = .ok (.ireturn, 1) := by decide +kernel
theorem d_Md_good_0 : decode prog_9_method_3_code 0 = .ok (.aload_n 0, 1) := by decide +kernel
theorem d_Md_good_1 : decode prog_9_method_3_code 1 = .ok (.iload_n 1, 1) := by decide +kernel
theorem d_Md_good_2 : decode prog_9_method_3_code 2 = .ok (.ifCond .eq 7, 3) := by decide +kernel
theorem d_Md_good_5 : decode prog_9_method_3_code 5 = .ok (.iconst 0, 1) := by decide +kernel
theorem d_Md_good_6 : decode prog_9_method_3_code 6 = .ok (.goto 4, 3) := by decide +kernel
theorem d_Md_good_10 : decode prog_9_method_3_code 10 = .ok (.putfield 35, 3) := by decide +kernel
theorem d_Md_good_13 : decode prog_9_method_3_code 13 = .ok (.iload_n 1, 1) := by decide +kernel
theorem d_Md_good_14 : decode prog_9_method_3_code 14 = .ok (.ireturn, 1) := by decide +kernel
theorem d_Md_good_9 : decode prog_9_method_3_code 9 = .ok (.iload_n 2, 1) := by decide +kernel
theorem d_Md_variables_0 : decode prog_9_method_4_code 0 = .ok (.aload_n 0, 1) := by decide +kernel
theorem d_Md_variables_1 : decode prog_9_method_4_code 1 = .ok (.iload_n 1, 1) := by decide +kernel
theorem d_Md_variables_2 : decode prog_9_method_4_code 2 = .ok (.iconst 1, 1) := by decide +kernel
theorem d_Md_variables_3 : decode prog_9_method_4_code 3 = .ok (.if_icmp .lt 14, 3) := by decide +kernel
theorem d_Md_variables_17 : decode prog_9_method_4_code 17 = .ok (.iconst 0, 1) := by decide +kernel
theorem d_Md_variables_18 : decode prog_9_method_4_code 18 = .ok (.iconst 1, 1) := by decide +kernel
theorem d_Md_variables_19 : decode prog_9_method_4_code 19 = .ok (.invokevirtual 39, 3) := by decide +kernel
theorem d_Md_variables_22 : decode prog_9_method_4_code 22 = .ok (.ifCond .eq 28, 3) := by decide +kernel
theorem d_Md_variables_50 : decode prog_9_method_4_code 50 = .ok (.iconst 0, 1) := by decide +kernel
theorem d_Md_variables_51 : decode prog_9_method_4_code 51 = .ok (.ireturn, 1) := by decide +kernel
theorem d_Md_variables_6 : decode prog_9_method_4_code 6 = .ok (.iload_n 1, 1) := by decide +kernel
theorem d_Md_variables_7 : decode prog_9_method_4_code 7 = .ok (.sipush 400, 3) := by decide +kernel
theorem d_Md_variables_10 : decode prog_9_method_4_code 10 = .ok (.if_icmp .gt 7, 3) := by decide +kernel
theorem d_Md_variables_13 : decode prog_9_method_4_code 13 = .ok (.iconst 1, 1) := by decide +kernel
theorem d_Md_variables_14 : decode prog_9_method_4_code 14 = .ok (.goto 4, 3) := by decide +kernel
theorem d_Md_variables_25 : decode prog_9_method_4_code 25 = .ok (.aload_n 0, 1) := by decide +kernel
theorem d_Md_variables_26 : decode prog_9_method_4_code 26 = .ok (.aload_n 0, 1) := by decide +kernel
theorem d_Md_variables_27 : decode prog_9_method_4_code 27 = .ok (.getfield 43, 3) := by decide +kernel
theorem d_Md_variables_30 : decode prog_9_method_4_code 30 = .ok (.iload_n 1, 1) := by decide +kernel
theorem d_Md_variables_31 : decode prog_9_method_4_code 31 = .ok (.iadd, 1) := by decide +kernel
theorem d_Md_variables_32 : decode prog_9_method_4_code 32 = .ok (.sipush 400, 3) := by decide +kernel
theorem d_Md_variables_35 : decode prog_9_method_4_code 35 = .ok (.if_icmp .gt 7, 3) := by decide +kernel
theorem d_Md_variables_38 : decode prog_9_method_4_code 38 = .ok (.iconst 1, 1) := by decide +kernel
theorem d_Md_variables_39 : decode prog_9_method_4_code 39 = .ok (.goto 4, 3) := by decide +kernel
theorem d_Md_variables_43 : decode prog_9_method_4_code 43 = .ok (.iconst 2, 1) := by decide +kernel
theorem d_Md_variables_44 : decode prog_9_method_4_code 44 = .ok (.invokevirtual 39, 3) := by decide +kernel
theorem d_Md_variables_47 : decode prog_9_method_4_code 47 = .ok (.ifCond .ne 5, 3) := by decide +kernel
theorem d_Md_variables_52 : decode prog_9_method_4_code 52 = .ok (.aload_n 0, 1) := by decide +kernel
theorem d_Md_variables_53 : decode prog_9_method_4_code 53 = .ok (.dup, 1) := by decide +kernel
theorem d_Md_variables_54 : decode prog_9_method_4_code 54 = .ok (.getfield 43, 3) := by decide +kernel
theorem d_Md_variables_57 : decode prog_9_method_4_code 57 = .ok (.iload_n 1, 1) := by decide +kernel
theorem d_Md_variables_58 : decode prog_9_method_4_code 58 = .ok (.iadd, 1) := by decide +kernel
theorem d_Md_variables_59 : decode prog_9_method_4_code 59 = .ok (.putfield 43, 3) := by decide +kernel
theorem d_Md_variables_62 : decode prog_9_method_4_code 62 = .ok (.aload_n 0, 1) := by decide +kernel
theorem d_Md_variables_63 : decode prog_9_method_4_code 63 = .ok (.iconst 0, 1) := by decide +kernel
theorem d_Md_variables_64 : decode prog_9_method_4_code 64 = .ok (.putfield 46, 3) := by decide +kernel
theorem d_Md_variables_67 : decode prog_9_method_4_code 67 = .ok (.aload_n 0, 1) := by decide +kernel
theorem d_Md_variables_68 : decode prog_9_method_4_code 68 = .ok (.getfield 43, 3) := by decide +kernel
theorem d_Md_variables_71 : decode prog_9_method_4_code 71 = .ok (.ireturn, 1) := by decide +kernel
theorem d_Md_give_0 : decode prog_9_method_5_code 0 = .ok (.iload_n 1, 1) := by decide +kernel
theorem d_Md_give_1 : decode prog_9_method_5_code 1 = .ok (.ifCond .eq 24, 3) := by decide +kernel
theorem d_Md_give_25 : decode prog_9_method_5_code 25 = .ok (.iconst 0, 1) := by decide +kernel
theorem d_Md_give_26 : decode prog_9_method_5_code 26 = .ok (.istore_n 2, 1) := by decide +kernel
theorem d_Md_give_27 : decode prog_9_method_5_code 27 = .ok (.aload_n 0, 1) := by decide +kernel
theorem d_Md_give_28 : decode prog_9_method_5_code 28 = .ok (.iload_n 2, 1) := by decide +kernel
theorem d_Md_give_29 : decode prog_9_method_5_code 29 = .ok (.iconst 1, 1) := by decide +kernel
theorem d_Md_give_30 : decode prog_9_method_5_code 30 = .ok (.invokevirtual 39, 3) := by decide +kernel
theorem d_Md_give_33 : decode prog_9_method_5_code 33 = .ok (.ifCond .eq 25, 3) := by decide +kernel
theorem d_Md_give_58 : decode prog_9_method_5_code 58 = .ok (.iconst 0, 1) := by decide +kernel
theorem d_Md_give_59 : decode prog_9_method_5_code 59 = .ok (.ireturn, 1) := by decide +kernel
theorem d_Md_give_4 : decode prog_9_method_5_code 4 = .ok (.iload_n 1, 1) := by decide +kernel
theorem d_Md_give_5 : decode prog_9_method_5_code 5 = .ok (.aload_n 0, 1) := by decide +kernel
theorem d_Md_give_6 : decode prog_9_method_5_code 6 = .ok (.getfield 43, 3) := by decide +kernel
theorem d_Md_give_9 : decode prog_9_method_5_code 9 = .ok (.ineg, 1) := by decide +kernel
theorem d_Md_give_10 : decode prog_9_method_5_code 10 = .ok (.if_icmp .lt 15, 3) := by decide +kernel
theorem d_Md_give_13 : decode prog_9_method_5_code 13 = .ok (.iload_n 1, 1) := by decide +kernel
theorem d_Md_give_14 : decode prog_9_method_5_code 14 = .ok (.aload_n 0, 1) := by decide +kernel
theorem d_Md_give_15 : decode prog_9_method_5_code 15 = .ok (.getfield 43, 3) := by decide +kernel
theorem d_Md_give_18 : decode prog_9_method_5_code 18 = .ok (.if_icmp .gt 7, 3) := by decide +kernel
theorem d_Md_clause_0 : decode prog_9_method_6_code 0 = .ok (.aload_n 0, 1) := by decide +kernel
theorem d_Md_clause_1 : decode prog_9_method_6_code 1 = .ok (.aload_n 0, 1) := by decide +kernel
theorem d_Md_clause_2 : decode prog_9_method_6_code 2 = .ok (.getfield 50, 3) := by decide +kernel
theorem d_Md_clause_5 : decode prog_9_method_6_code 5 = .ok (.ifCond .le 7, 3) := by decide +kernel
theorem d_Md_clause_12 : decode prog_9_method_6_code 12 = .ok (.iconst 0, 1) := by decide +kernel
theorem d_Md_clause_13 : decode prog_9_method_6_code 13 = .ok (.iconst 1, 1) := by decide +kernel
theorem d_Md_clause_14 : decode prog_9_method_6_code 14 = .ok (.invokevirtual 39, 3) := by decide +kernel
theorem d_Md_clause_17 : decode prog_9_method_6_code 17 = .ok (.ifCond .eq 26, 3) := by decide +kernel
theorem d_Md_clause_43 : decode prog_9_method_6_code 43 = .ok (.iconst 0, 1) := by decide +kernel
theorem d_Md_clause_44 : decode prog_9_method_6_code 44 = .ok (.ireturn, 1) := by decide +kernel
theorem d_Md_value_0 : decode prog_9_method_14_code 0 = .ok (.aload_n 0, 1) := by decide +kernel
theorem d_Md_value_1 : decode prog_9_method_14_code 1 = .ok (.iload_n 1, 1) := by decide +kernel
theorem d_Md_value_2 : decode prog_9_method_14_code 2 = .ok (.iconst 1, 1) := by decide +kernel
theorem d_Md_value_3 : decode prog_9_method_14_code 3 = .ok (.if_icmp .lt 15, 3) := by decide +kernel
theorem d_Md_value_18 : decode prog_9_method_14_code 18 = .ok (.iconst 0, 1) := by decide +kernel
theorem d_Md_value_19 : decode prog_9_method_14_code 19 = .ok (.iconst 1, 1) := by decide +kernel
theorem d_Md_value_20 : decode prog_9_method_14_code 20 = .ok (.invokevirtual 39, 3) := by decide +kernel
theorem d_Md_value_23 : decode prog_9_method_14_code 23 = .ok (.ifCond .eq 15, 3) := by decide +kernel
theorem d_Md_value_38 : decode prog_9_method_14_code 38 = .ok (.iconst 0, 1) := by decide +kernel
theorem d_Md_value_39 : decode prog_9_method_14_code 39 = .ok (.ireturn, 1) := by decide +kernel
theorem d_Md_value_6 : decode prog_9_method_14_code 6 = .ok (.iload_n 1, 1) := by decide +kernel
theorem d_Md_value_7 : decode prog_9_method_14_code 7 = .ok (.aload_n 0, 1) := by decide +kernel
theorem d_Md_value_8 : decode prog_9_method_14_code 8 = .ok (.getfield 43, 3) := by decide +kernel
theorem d_Md_value_11 : decode prog_9_method_14_code 11 = .ok (.if_icmp .gt 7, 3) := by decide +kernel
theorem d_Md_count_0 : decode prog_9_method_15_code 0 = .ok (.aload_n 0, 1) := by decide +kernel
theorem d_Md_count_1 : decode prog_9_method_15_code 1 = .ok (.iload_n 1, 1) := by decide +kernel
theorem d_Md_count_2 : decode prog_9_method_15_code 2 = .ok (.ifCond .lt 12, 3) := by decide +kernel
theorem d_Md_count_14 : decode prog_9_method_15_code 14 = .ok (.iconst 0, 1) := by decide +kernel
theorem d_Md_count_15 : decode prog_9_method_15_code 15 = .ok (.iconst 1, 1) := by decide +kernel
theorem d_Md_count_16 : decode prog_9_method_15_code 16 = .ok (.invokevirtual 39, 3) := by decide +kernel
theorem d_Md_count_19 : decode prog_9_method_15_code 19 = .ok (.ifCond .ne 5, 3) := by decide +kernel
theorem d_Md_count_22 : decode prog_9_method_15_code 22 = .ok (.iconst 0, 1) := by decide +kernel
theorem d_Md_count_23 : decode prog_9_method_15_code 23 = .ok (.ireturn, 1) := by decide +kernel
theorem d_Md_count_5 : decode prog_9_method_15_code 5 = .ok (.iload_n 1, 1) := by decide +kernel
theorem d_Md_count_6 : decode prog_9_method_15_code 6 = .ok (.iconst 5, 1) := by decide +kernel
theorem d_Md_count_7 : decode prog_9_method_15_code 7 = .ok (.if_icmp .gt 7, 3) := by decide +kernel
theorem d_Md_count_10 : decode prog_9_method_15_code 10 = .ok (.iconst 1, 1) := by decide +kernel
theorem d_Md_count_11 : decode prog_9_method_15_code 11 = .ok (.goto 4, 3) := by decide +kernel
theorem d_Md_count_24 : decode prog_9_method_15_code 24 = .ok (.iload_n 1, 1) := by decide +kernel
theorem d_Md_count_25 : decode prog_9_method_15_code 25 = .ok (.ifCond .ne 10, 3) := by decide +kernel
theorem d_Md_count_35 : decode prog_9_method_15_code 35 = .ok (.iload_n 1, 1) := by decide +kernel
theorem d_Md_count_36 : decode prog_9_method_15_code 36 = .ok (.iconst 1, 1) := by decide +kernel
theorem d_Md_count_37 : decode prog_9_method_15_code 37 = .ok (.if_icmp .ne 10, 3) := by decide +kernel
theorem d_Md_count_47 : decode prog_9_method_15_code 47 = .ok (.iload_n 1, 1) := by decide +kernel
theorem d_Md_count_48 : decode prog_9_method_15_code 48 = .ok (.iconst 2, 1) := by decide +kernel
theorem d_Md_count_49 : decode prog_9_method_15_code 49 = .ok (.if_icmp .ne 10, 3) := by decide +kernel
theorem d_Md_count_59 : decode prog_9_method_15_code 59 = .ok (.iload_n 1, 1) := by decide +kernel
theorem d_Md_count_60 : decode prog_9_method_15_code 60 = .ok (.iconst 3, 1) := by decide +kernel
theorem d_Md_count_61 : decode prog_9_method_15_code 61 = .ok (.if_icmp .ne 14, 3) := by decide +kernel
theorem d_Md_count_75 : decode prog_9_method_15_code 75 = .ok (.iconst 0, 1) := by decide +kernel
theorem d_Md_count_76 : decode prog_9_method_15_code 76 = .ok (.ireturn, 1) := by decide +kernel
theorem d_Md_count_64 : decode prog_9_method_15_code 64 = .ok (.aload_n 0, 1) := by decide +kernel
theorem d_Md_count_65 : decode prog_9_method_15_code 65 = .ok (.getfield 46, 3) := by decide +kernel
theorem d_Md_count_68 : decode prog_9_method_15_code 68 = .ok (.ifCond .eq 7, 3) := by decide +kernel
theorem d_Md_count_52 : decode prog_9_method_15_code 52 = .ok (.aload_n 0, 1) := by decide +kernel
theorem d_Md_count_53 : decode prog_9_method_15_code 53 = .ok (.getfield 50, 3) := by decide +kernel
theorem d_Md_count_56 : decode prog_9_method_15_code 56 = .ok (.goto 20, 3) := by decide +kernel
theorem d_Md_count_40 : decode prog_9_method_15_code 40 = .ok (.aload_n 0, 1) := by decide +kernel
theorem d_Md_count_41 : decode prog_9_method_15_code 41 = .ok (.getfield 53, 3) := by decide +kernel
theorem d_Md_count_44 : decode prog_9_method_15_code 44 = .ok (.goto 32, 3) := by decide +kernel
theorem d_Md_count_28 : decode prog_9_method_15_code 28 = .ok (.aload_n 0, 1) := by decide +kernel
theorem d_Md_count_29 : decode prog_9_method_15_code 29 = .ok (.getfield 43, 3) := by decide +kernel
theorem d_Md_count_32 : decode prog_9_method_15_code 32 = .ok (.goto 44, 3) := by decide +kernel
set_option maxHeartbeats 4000000 in
set_option maxRecDepth 100000 in
/-- thrown() -/
theorem c_Md_thrown (l : Launch) (dC : Nat → ClassId) (dI : Nat → Nat → Nat) (m0 : Nat) (j0 : Nat) (j1 : Nat) (j2 : Nat) (j3 : Nat) (j4 : Nat) (j5 : Nat) (j6 : Nat) (j7 : Nat) (sz : Nat) (ev : Int32) (ec : Int32) (eg : Int32) (ea : Int32) (es : Int32) (eo : Int32) (el : Int32) : Met l y_Md_thrown (wq y_Md_thrown prog_9_method_2_code 1 (some .int)) ({ frames := 0, cells := 0, slots := 0, locals := 0 }) (va_Pc [.ref m0] (fun U => U.heap.size = sz ∧ va_P (dC, dI) vwCl [(m0, .inr (7, [.ref j0, .ref j1, .ref j2, .ref j3, .ref j4, .int ev, .int ec, .int eg, .int ea, .int es, .int eo, .ref j5, .int el, .ref j6, .ref j7]))] U.heap ∧ va_K (dC, dI) vwCl [] U ∧ va_D (fun _ => True) [(m0, .inr (7, [.ref j0, .ref j1, .ref j2, .ref j3, .ref j4, .int ev, .int ec, .int eg, .int ea, .int es, .int eo, .ref j5, .int el, .ref j6, .ref j7]))])) (va_Qi (fun (r : Int32) (_ : Unit) => r = eo) (fun (_ : Unit) t => va_P (dC, dI) vwCl [(m0, .inr (7, [.ref j0, .ref j1, .ref j2, .ref j3, .ref j4, .int ev, .int ec, .int eg, .int ea, .int es, .int eo, .ref j5, .int el, .ref j6, .ref j7]))] t.heap ∧ va_K (dC, dI) vwCl [] t ∧ va_D (va_A [(m0, .inr (7, [.ref j0, .ref j1, .ref j2, .ref j3, .ref j4, .int ev, .int ec, .int eg, .int ea, .int es, .int eo, .ref j5, .int el, .ref j6, .ref j7]))] sz) [(m0, .inr (7, [.ref j0, .ref j1, .ref j2, .ref j3, .ref j4, .int ev, .int ec, .int eg, .int ea, .int es, .int eo, .ref j5, .int el, .ref j6, .ref j7]))]) (va_A [(m0, .inr (7, [.ref j0, .ref j1, .ref j2, .ref j3, .ref j4, .int ev, .int ec, .int eg, .int ea, .int es, .int eo, .ref j5, .int el, .ref j6, .ref j7]))] sz)) 0 0 (va_A [(m0, .inr (7, [.ref j0, .ref j1, .ref j2, .ref j3, .ref j4, .int ev, .int ec, .int eg, .int ea, .int es, .int eo, .ref j5, .int el, .ref j6, .ref j7]))] sz) := by
  refine Met.ofW (cc := prog_9_method_2_code) (maxL := 1) (ret := (some .int)) (by decide) rfl ?_
  intro p e s m args below meth c s₁ B hml hv
  obtain ⟨rfl, hsz, hP, hK, hD0⟩ := hv
  have hx := B.exec
  have hb := B.bytes
  have hr := B.returns
  have hw : ∀ w ∈ bg_W, w.before #[Value.ref m0] s = true := fun w h => atoms_spec (ws := (wq y_Md_thrown prog_9_method_2_code 1 (some .int))) B.pre w (List.mem_cons_of_mem _ h)
  have hown : s.vm.findClass R_Md = some m.cls := findClass_of_methodNamed B.named
  have hlocks := B.notSynchronized
  subst hsz
  have hD := hD0.self (sz := s.heap.size)
  generalize hAe : va_A [(m0, .inr (7, [.ref j0, .ref j1, .ref j2, .ref j3, .ref j4, .int ev, .int ec, .int eg, .int ea, .int es, .int eo, .ref j5, .int el, .ref j6, .ref j7]))] s.heap.size = A at hD ⊢
  have hA : ∀ q : Nat, s.heap.size ≤ q → A q := fun q h => by rw [← hAe]; exact Or.inr h
  have hS : va_S A s.heap s.heap [] := va_S.rf
  have hP : va_P (dC, dI) vwCl [(m0, .inr (7, [.ref j0, .ref j1, .ref j2, .ref j3, .ref j4, .int ev, .int ec, .int eg, .int ea, .int es, .int eo, .ref j5, .int el, .ref j6, .ref j7]))] s.heap := hP
  have hl := lv_entry ([.ref m0]) (n := 1) (Nat.le_of_ble_eq_true rfl)
  rw [lg_entry_eq]
  generalize (lg_sl ([.ref m0]) ++ List.replicate (1 - (lg_sl ([.ref m0])).length) Slot.unset).toArray = ls at hl ⊢
  have hl : lv_has ls 1 [(0, .ref m0)] := hl
  obtain ⟨H, hH⟩ : ∃ H : Heap, H = s.heap := ⟨_, rfl⟩
  rw [← hH] at hP
  have hS : va_S A s.heap H [] := by rw [hH]; exact va_S.rf
  show W p l e _ s m _ below meth c s.heap [] 0 0 _ _
  rw [← hH]
  refine lv_aload_n hx hb d_Md_thrown_0 rfl (lv_at hl 0 rfl) ?_
  refine va_get (D := (dC, dI)) (ci := 7) (v := .int eo) (C := R_Md) (T := F_Md) (N := 15) hx hb hw in_Md hown hK hP 0 rfl rfl 10 (by decide) (hw (Cond.fieldLink "ClauseSearchModel" 35 "ClauseSearchModel" "code" "I") k_614) (fun _ h9 => h9) rfl d_Md_thrown_1 ?_
  refine W.widen (k := 0) (n := 0) (by decide) (by decide) ?_
  exact W.iret (v := eo) hx hb hr (fun t ht hW => ⟨⟨eo, (), rfl, rfl, by rw [ht]; exact hP, va_K.moved hW.alike hK, hD⟩, hS.F ht⟩) hS.2.2 d_Md_thrown_4

set_option maxHeartbeats 4000000 in
set_option maxRecDepth 100000 in
/-- good(true, c) -/
theorem c_Md_good_1 (l : Launch) (dC : Nat → ClassId) (dI : Nat → Nat → Nat) (m0 : Nat) (j0 : Nat) (j1 : Nat) (j2 : Nat) (j3 : Nat) (j4 : Nat) (j5 : Nat) (j6 : Nat) (j7 : Nat) (sz : Nat) (ev : Int32) (ec : Int32) (eg : Int32) (ea : Int32) (es : Int32) (eo : Int32) (el : Int32) (pc : Int32) : Met l y_Md_good (wq y_Md_good prog_9_method_3_code 3 (some .boolean)) ({ frames := 0, cells := 0, slots := 0, locals := 0 }) (va_Pc [.ref m0, .int 1, .int pc] (fun U => U.heap.size = sz ∧ va_P (dC, dI) vwCl [(m0, .inr (7, [.ref j0, .ref j1, .ref j2, .ref j3, .ref j4, .int ev, .int ec, .int eg, .int ea, .int es, .int eo, .ref j5, .int el, .ref j6, .ref j7]))] U.heap ∧ va_K (dC, dI) vwCl [] U ∧ va_D (fun _ => True) [(m0, .inr (7, [.ref j0, .ref j1, .ref j2, .ref j3, .ref j4, .int ev, .int ec, .int eg, .int ea, .int es, .int eo, .ref j5, .int el, .ref j6, .ref j7]))])) (va_Qi (fun (r : Int32) (_ : Unit) => r = 1) (fun (_ : Unit) t => va_P (dC, dI) vwCl [(m0, .inr (7, [.ref j0, .ref j1, .ref j2, .ref j3, .ref j4, .int ev, .int ec, .int eg, .int ea, .int es, .int 0, .ref j5, .int el, .ref j6, .ref j7]))] t.heap ∧ va_K (dC, dI) vwCl [] t ∧ va_D (va_A [(m0, .inr (7, [.ref j0, .ref j1, .ref j2, .ref j3, .ref j4, .int ev, .int ec, .int eg, .int ea, .int es, .int eo, .ref j5, .int el, .ref j6, .ref j7]))] sz) [(m0, .inr (7, [.ref j0, .ref j1, .ref j2, .ref j3, .ref j4, .int ev, .int ec, .int eg, .int ea, .int es, .int 0, .ref j5, .int el, .ref j6, .ref j7]))]) (va_A [(m0, .inr (7, [.ref j0, .ref j1, .ref j2, .ref j3, .ref j4, .int ev, .int ec, .int eg, .int ea, .int es, .int eo, .ref j5, .int el, .ref j6, .ref j7]))] sz)) 0 0 (va_A [(m0, .inr (7, [.ref j0, .ref j1, .ref j2, .ref j3, .ref j4, .int ev, .int ec, .int eg, .int ea, .int es, .int eo, .ref j5, .int el, .ref j6, .ref j7]))] sz) := by
  refine Met.ofW (cc := prog_9_method_3_code) (maxL := 3) (ret := (some .boolean)) (by decide) rfl ?_
  intro p e s m args below meth c s₁ B hml hv
  obtain ⟨rfl, hsz, hP, hK, hD0⟩ := hv
  have hx := B.exec
  have hb := B.bytes
  have hr := B.returns
  have hw : ∀ w ∈ bg_W, w.before #[Value.ref m0, Value.int 1, Value.int pc] s = true := fun w h => atoms_spec (ws := (wq y_Md_good prog_9_method_3_code 3 (some .boolean))) B.pre w (List.mem_cons_of_mem _ h)
  have hown : s.vm.findClass R_Md = some m.cls := findClass_of_methodNamed B.named
  have hlocks := B.notSynchronized
  subst hsz
  have hD := hD0.self (sz := s.heap.size)
  generalize hAe : va_A [(m0, .inr (7, [.ref j0, .ref j1, .ref j2, .ref j3, .ref j4, .int ev, .int ec, .int eg, .int ea, .int es, .int eo, .ref j5, .int el, .ref j6, .ref j7]))] s.heap.size = A at hD ⊢
  have hA : ∀ q : Nat, s.heap.size ≤ q → A q := fun q h => by rw [← hAe]; exact Or.inr h
  have hS : va_S A s.heap s.heap [] := va_S.rf
  have hP : va_P (dC, dI) vwCl [(m0, .inr (7, [.ref j0, .ref j1, .ref j2, .ref j3, .ref j4, .int ev, .int ec, .int eg, .int ea, .int es, .int eo, .ref j5, .int el, .ref j6, .ref j7]))] s.heap := hP
  have hl := lv_entry ([.ref m0, .int 1, .int pc]) (n := 3) (Nat.le_of_ble_eq_true rfl)
  rw [lg_entry_eq]
  generalize (lg_sl ([.ref m0, .int 1, .int pc]) ++ List.replicate (3 - (lg_sl ([.ref m0, .int 1, .int pc])).length) Slot.unset).toArray = ls at hl ⊢
  have hl : lv_has ls 3 [(0, .ref m0), (1, .int 1), (2, .int pc)] := hl
  obtain ⟨H, hH⟩ : ∃ H : Heap, H = s.heap := ⟨_, rfl⟩
  rw [← hH] at hP
  have hS : va_S A s.heap H [] := by rw [hH]; exact va_S.rf
  show W p l e _ s m _ below meth c s.heap [] 0 0 _ _
  rw [← hH]
  refine lv_aload_n hx hb d_Md_good_0 rfl (lv_at hl 0 rfl) ?_
  refine lv_iload_n hx hb d_Md_good_1 rfl (lv_at hl 1 rfl) ?_
  refine lv_if_eq (tgt := 9) hx hb d_Md_good_2 (by decide) (fun c_2 => absurd c_2 (by decide)) (fun c_2 => ?_)
  refine lv_iconst (v := 0) hx hb d_Md_good_5 (by decide) ?_
  refine lv_goto (tgt := 10) hx hb d_Md_good_6 (by decide) ?_
  refine va_put (D := (dC, dI)) (ci := 7) (v := .int 0) (ty := .int) (C := R_Md) (T := F_Md) (N := 15) hx hb hw in_Md t_Md t_Md_ok n_Md hown hK hP hD hS 0 rfl rfl 10 (by decide) (hw (Cond.fieldLink "ClauseSearchModel" 35 "ClauseSearchModel" "code" "I") k_614) (fun _ h9 => h9) rfl (by decide +kernel) rfl rfl (Nat.le_of_ble_eq_true rfl) d_Md_good_10 (fun H locs hP hD hS => ?_)
  have hP : va_P (dC, dI) vwCl [(m0, .inr (7, [.ref j0, .ref j1, .ref j2, .ref j3, .ref j4, .int ev, .int ec, .int eg, .int ea, .int es, .int 0, .ref j5, .int el, .ref j6, .ref j7]))] H := hP
  have hD : va_D A [(m0, .inr (7, [.ref j0, .ref j1, .ref j2, .ref j3, .ref j4, .int ev, .int ec, .int eg, .int ea, .int es, .int 0, .ref j5, .int el, .ref j6, .ref j7]))] := hD
  refine lv_iload_n hx hb d_Md_good_13 rfl (lv_at hl 1 rfl) ?_
  refine W.widen (k := 0) (n := 0) (by decide) (by decide) ?_
  exact W.zret (v := 1) hx hb hr rfl (fun t ht hW => ⟨⟨1, (), rfl, rfl, by rw [ht]; exact hP, va_K.moved hW.alike hK, hD⟩, hS.F ht⟩) hS.2.2 d_Md_good_14

set_option maxHeartbeats 4000000 in
set_option maxRecDepth 100000 in
/-- good(false, c) -/
theorem c_Md_good_0 (l : Launch) (dC : Nat → ClassId) (dI : Nat → Nat → Nat) (m0 : Nat) (j0 : Nat) (j1 : Nat) (j2 : Nat) (j3 : Nat) (j4 : Nat) (j5 : Nat) (j6 : Nat) (j7 : Nat) (sz : Nat) (ev : Int32) (ec : Int32) (eg : Int32) (ea : Int32) (es : Int32) (eo : Int32) (el : Int32) (pc : Int32) : Met l y_Md_good (wq y_Md_good prog_9_method_3_code 3 (some .boolean)) ({ frames := 0, cells := 0, slots := 0, locals := 0 }) (va_Pc [.ref m0, .int 0, .int pc] (fun U => U.heap.size = sz ∧ va_P (dC, dI) vwCl [(m0, .inr (7, [.ref j0, .ref j1, .ref j2, .ref j3, .ref j4, .int ev, .int ec, .int eg, .int ea, .int es, .int eo, .ref j5, .int el, .ref j6, .ref j7]))] U.heap ∧ va_K (dC, dI) vwCl [] U ∧ va_D (fun _ => True) [(m0, .inr (7, [.ref j0, .ref j1, .ref j2, .ref j3, .ref j4, .int ev, .int ec, .int eg, .int ea, .int es, .int eo, .ref j5, .int el, .ref j6, .ref j7]))])) (va_Qi (fun (r : Int32) (_ : Unit) => r = 0) (fun (_ : Unit) t => va_P (dC, dI) vwCl [(m0, .inr (7, [.ref j0, .ref j1, .ref j2, .ref j3, .ref j4, .int ev, .int ec, .int eg, .int ea, .int es, .int pc, .ref j5, .int el, .ref j6, .ref j7]))] t.heap ∧ va_K (dC, dI) vwCl [] t ∧ va_D (va_A [(m0, .inr (7, [.ref j0, .ref j1, .ref j2, .ref j3, .ref j4, .int ev, .int ec, .int eg, .int ea, .int es, .int eo, .ref j5, .int el, .ref j6, .ref j7]))] sz) [(m0, .inr (7, [.ref j0, .ref j1, .ref j2, .ref j3, .ref j4, .int ev, .int ec, .int eg, .int ea, .int es, .int pc, .ref j5, .int el, .ref j6, .ref j7]))]) (va_A [(m0, .inr (7, [.ref j0, .ref j1, .ref j2, .ref j3, .ref j4, .int ev, .int ec, .int eg, .int ea, .int es, .int eo, .ref j5, .int el, .ref j6, .ref j7]))] sz)) 0 0 (va_A [(m0, .inr (7, [.ref j0, .ref j1, .ref j2, .ref j3, .ref j4, .int ev, .int ec, .int eg, .int ea, .int es, .int eo, .ref j5, .int el, .ref j6, .ref j7]))] sz) := by
  refine Met.ofW (cc := prog_9_method_3_code) (maxL := 3) (ret := (some .boolean)) (by decide) rfl ?_
  intro p e s m args below meth c s₁ B hml hv
  obtain ⟨rfl, hsz, hP, hK, hD0⟩ := hv
  have hx := B.exec
  have hb := B.bytes
  have hr := B.returns
  have hw : ∀ w ∈ bg_W, w.before #[Value.ref m0, Value.int 0, Value.int pc] s = true := fun w h => atoms_spec (ws := (wq y_Md_good prog_9_method_3_code 3 (some .boolean))) B.pre w (List.mem_cons_of_mem _ h)
  have hown : s.vm.findClass R_Md = some m.cls := findClass_of_methodNamed B.named
  have hlocks := B.notSynchronized
  subst hsz
  have hD := hD0.self (sz := s.heap.size)
  generalize hAe : va_A [(m0, .inr (7, [.ref j0, .ref j1, .ref j2, .ref j3, .ref j4, .int ev, .int ec, .int eg, .int ea, .int es, .int eo, .ref j5, .int el, .ref j6, .ref j7]))] s.heap.size = A at hD ⊢
  have hA : ∀ q : Nat, s.heap.size ≤ q → A q := fun q h => by rw [← hAe]; exact Or.inr h
  have hS : va_S A s.heap s.heap [] := va_S.rf
  have hP : va_P (dC, dI) vwCl [(m0, .inr (7, [.ref j0, .ref j1, .ref j2, .ref j3, .ref j4, .int ev, .int ec, .int eg, .int ea, .int es, .int eo, .ref j5, .int el, .ref j6, .ref j7]))] s.heap := hP
  have hl := lv_entry ([.ref m0, .int 0, .int pc]) (n := 3) (Nat.le_of_ble_eq_true rfl)
  rw [lg_entry_eq]
  generalize (lg_sl ([.ref m0, .int 0, .int pc]) ++ List.replicate (3 - (lg_sl ([.ref m0, .int 0, .int pc])).length) Slot.unset).toArray = ls at hl ⊢
  have hl : lv_has ls 3 [(0, .ref m0), (1, .int 0), (2, .int pc)] := hl
  obtain ⟨H, hH⟩ : ∃ H : Heap, H = s.heap := ⟨_, rfl⟩
  rw [← hH] at hP
  have hS : va_S A s.heap H [] := by rw [hH]; exact va_S.rf
  show W p l e _ s m _ below meth c s.heap [] 0 0 _ _
  rw [← hH]
  refine lv_aload_n hx hb d_Md_good_0 rfl (lv_at hl 0 rfl) ?_
  refine lv_iload_n hx hb d_Md_good_1 rfl (lv_at hl 1 rfl) ?_
  refine lv_if_eq (tgt := 9) hx hb d_Md_good_2 (by decide) (fun c_2 => ?_) (fun c_2 => absurd c_2 (by decide))
  refine lv_iload_n hx hb d_Md_good_9 rfl (lv_at hl 2 rfl) ?_
  refine va_put (D := (dC, dI)) (ci := 7) (v := .int pc) (ty := .int) (C := R_Md) (T := F_Md) (N := 15) hx hb hw in_Md t_Md t_Md_ok n_Md hown hK hP hD hS 0 rfl rfl 10 (by decide) (hw (Cond.fieldLink "ClauseSearchModel" 35 "ClauseSearchModel" "code" "I") k_614) (fun _ h9 => h9) rfl (by decide +kernel) rfl rfl (Nat.le_of_ble_eq_true rfl) d_Md_good_10 (fun H locs hP hD hS => ?_)
  have hP : va_P (dC, dI) vwCl [(m0, .inr (7, [.ref j0, .ref j1, .ref j2, .ref j3, .ref j4, .int ev, .int ec, .int eg, .int ea, .int es, .int pc, .ref j5, .int el, .ref j6, .ref j7]))] H := hP
  have hD : va_D A [(m0, .inr (7, [.ref j0, .ref j1, .ref j2, .ref j3, .ref j4, .int ev, .int ec, .int eg, .int ea, .int es, .int pc, .ref j5, .int el, .ref j6, .ref j7]))] := hD
  refine lv_iload_n hx hb d_Md_good_13 rfl (lv_at hl 1 rfl) ?_
  refine W.widen (k := 0) (n := 0) (by decide) (by decide) ?_
  exact W.zret (v := 0) hx hb hr rfl (fun t ht hW => ⟨⟨0, (), rfl, rfl, by rw [ht]; exact hP, va_K.moved hW.alike hK, hD⟩, hS.F ht⟩) hS.2.2 d_Md_good_14

set_option maxHeartbeats 4000000 in
set_option maxRecDepth 100000 in
/-- variables(n) refuses n -/
theorem c_Md_variables_1 (l : Launch) (dC : Nat → ClassId) (dI : Nat → Nat → Nat) (m0 : Nat) (j0 : Nat) (j1 : Nat) (j2 : Nat) (j3 : Nat) (j4 : Nat) (j5 : Nat) (j6 : Nat) (j7 : Nat) (sz : Nat) (ev : Int32) (ec : Int32) (eg : Int32) (ea : Int32) (es : Int32) (eo : Int32) (el : Int32) (p0 : Int32) (h : p0 < 1 ∨ 400 < p0) : Met l y_Md_variables (wq y_Md_variables prog_9_method_4_code 2 (some .int)) ({ frames := 1, cells := 0, slots := 0, locals := 22 }) (va_Pc [.ref m0, .int p0] (fun U => U.heap.size = sz ∧ va_P (dC, dI) vwCl [(m0, .inr (7, [.ref j0, .ref j1, .ref j2, .ref j3, .ref j4, .int ev, .int ec, .int eg, .int ea, .int es, .int eo, .ref j5, .int el, .ref j6, .ref j7]))] U.heap ∧ va_K (dC, dI) vwCl [] U ∧ va_D (fun _ => True) [(m0, .inr (7, [.ref j0, .ref j1, .ref j2, .ref j3, .ref j4, .int ev, .int ec, .int eg, .int ea, .int es, .int eo, .ref j5, .int el, .ref j6, .ref j7]))])) (va_Qi (fun (r : Int32) (_ : Unit) => r = 0) (fun (_ : Unit) t => va_P (dC, dI) vwCl [(m0, .inr (7, [.ref j0, .ref j1, .ref j2, .ref j3, .ref j4, .int ev, .int ec, .int eg, .int ea, .int es, .int 1, .ref j5, .int el, .ref j6, .ref j7]))] t.heap ∧ va_K (dC, dI) vwCl [] t ∧ va_D (va_A [(m0, .inr (7, [.ref j0, .ref j1, .ref j2, .ref j3, .ref j4, .int ev, .int ec, .int eg, .int ea, .int es, .int eo, .ref j5, .int el, .ref j6, .ref j7]))] sz) [(m0, .inr (7, [.ref j0, .ref j1, .ref j2, .ref j3, .ref j4, .int ev, .int ec, .int eg, .int ea, .int es, .int 1, .ref j5, .int el, .ref j6, .ref j7]))]) (va_A [(m0, .inr (7, [.ref j0, .ref j1, .ref j2, .ref j3, .ref j4, .int ev, .int ec, .int eg, .int ea, .int es, .int eo, .ref j5, .int el, .ref j6, .ref j7]))] sz)) 0 0 (va_A [(m0, .inr (7, [.ref j0, .ref j1, .ref j2, .ref j3, .ref j4, .int ev, .int ec, .int eg, .int ea, .int es, .int eo, .ref j5, .int el, .ref j6, .ref j7]))] sz) := by
  refine Met.ofW (cc := prog_9_method_4_code) (maxL := 2) (ret := (some .int)) (by decide) rfl ?_
  intro p e s m args below meth c s₁ B hml hv
  obtain ⟨rfl, hsz, hP, hK, hD0⟩ := hv
  have hx := B.exec
  have hb := B.bytes
  have hr := B.returns
  have hw : ∀ w ∈ bg_W, w.before #[Value.ref m0, Value.int p0] s = true := fun w h => atoms_spec (ws := (wq y_Md_variables prog_9_method_4_code 2 (some .int))) B.pre w (List.mem_cons_of_mem _ h)
  have hown : s.vm.findClass R_Md = some m.cls := findClass_of_methodNamed B.named
  have hlocks := B.notSynchronized
  subst hsz
  have hD := hD0.self (sz := s.heap.size)
  generalize hAe : va_A [(m0, .inr (7, [.ref j0, .ref j1, .ref j2, .ref j3, .ref j4, .int ev, .int ec, .int eg, .int ea, .int es, .int eo, .ref j5, .int el, .ref j6, .ref j7]))] s.heap.size = A at hD ⊢
  have hA : ∀ q : Nat, s.heap.size ≤ q → A q := fun q h => by rw [← hAe]; exact Or.inr h
  have hS : va_S A s.heap s.heap [] := va_S.rf
  have hP : va_P (dC, dI) vwCl [(m0, .inr (7, [.ref j0, .ref j1, .ref j2, .ref j3, .ref j4, .int ev, .int ec, .int eg, .int ea, .int es, .int eo, .ref j5, .int el, .ref j6, .ref j7]))] s.heap := hP
  have hl := lv_entry ([.ref m0, .int p0]) (n := 2) (Nat.le_of_ble_eq_true rfl)
  rw [lg_entry_eq]
  generalize (lg_sl ([.ref m0, .int p0]) ++ List.replicate (2 - (lg_sl ([.ref m0, .int p0])).length) Slot.unset).toArray = ls at hl ⊢
  have hl : lv_has ls 2 [(0, .ref m0), (1, .int p0)] := hl
  obtain ⟨H, hH⟩ : ∃ H : Heap, H = s.heap := ⟨_, rfl⟩
  rw [← hH] at hP
  have hS : va_S A s.heap H [] := by rw [hH]; exact va_S.rf
  show W p l e _ s m _ below meth c s.heap [] 0 0 _ _
  rw [← hH]
  refine lv_aload_n hx hb d_Md_variables_0 rfl (lv_at hl 0 rfl) ?_
  refine lv_iload_n hx hb d_Md_variables_1 rfl (lv_at hl 1 rfl) ?_
  refine lv_iconst (v := 1) hx hb d_Md_variables_2 (by decide) ?_
  refine lv_icmp_lt (tgt := 17) hx hb d_Md_variables_3 (by decide) (fun c_3 => ?_) (fun c_3 => ?_)
  · refine lv_iconst (v := 0) hx hb d_Md_variables_17 (by decide) ?_
    refine lv_iconst (v := 1) hx hb d_Md_variables_18 (by decide) ?_
    have hPc := hP.sub (ws' := [(m0, .inr (7, [.ref j0, .ref j1, .ref j2, .ref j3, .ref j4, .int ev, .int ec, .int eg, .int ea, .int es, .int eo, .ref j5, .int el, .ref j6, .ref j7]))]) [0] rfl
    have hDc := hD.sub (ws' := [(m0, .inr (7, [.ref j0, .ref j1, .ref j2, .ref j3, .ref j4, .int ev, .int ec, .int eg, .int ea, .int es, .int eo, .ref j5, .int el, .ref j6, .ref j7]))]) [0] (by decide) rfl
    have hKc := hK.sub (tys' := []) [] rfl
    have hFc := va_free (wc := [(m0, .inr (7, [.ref j0, .ref j1, .ref j2, .ref j3, .ref j4, .int ev, .int ec, .int eg, .int ea, .int es, .int eo, .ref j5, .int el, .ref j6, .ref j7]))]) hD hS hA [0] rfl
    refine va_calli (va_runV (As := [.int 0, .int 1]) (rest := []) ⟨hx, hb, hml, hown, hw⟩ (c_Md_good_0 l dC dI m0 j0 j1 j2 j3 j4 j5 j6 j7 H.size ev ec eg ea es eo el 1) (cb_V (C := R_Md) 2 hw k_661 k_37 k_658 k_660 k_21 rfl rfl (by decide +kernel) ⟨Nat.le_of_ble_eq_true rfl, Nat.le_of_ble_eq_true rfl⟩) ⟨fun a U g mk q => by obtain ⟨q0, q1, qP, qK, qD⟩ := q; exact ⟨q0, q1, qP, va_K.moved (u := U) (U := U.calling g mk a) (Vm.Alike.refl U.vm) qK, qD⟩, va_recv hKc hPc (ci := 7) (q0 := 0) rfl rfl, fun U hU hW => ⟨rfl, by rw [hU], by rw [hU]; exact hPc, va_K.moved hW.alike hKc, hDc.weaken (fun _ _ _ _ => trivial)⟩⟩ rfl rfl hl.1 rfl (lv_room (Nat.le_of_ble_eq_true rfl)) d_Md_variables_19 ⟨Nat.le_of_ble_eq_true rfl, Nat.le_of_ble_eq_true rfl⟩) hS (fun q _ h => hFc q h) hFc (fun r_1 u t H1 locs ht hvm hw9 hB hz1 hk1 hS => ?_)
    obtain ⟨hP1, hK1, hD1⟩ := hB
    rw [ht] at hP1
    have hK1 := va_K.moved hvm.symm hK1
    obtain ⟨hP, hD⟩ := va_join (wr := []) (w1 := [(m0, .inr (7, [.ref j0, .ref j1, .ref j2, .ref j3, .ref j4, .int ev, .int ec, .int eg, .int ea, .int es, .int 1, .ref j5, .int el, .ref j6, .ref j7]))]) hP hD [0] [] rfl rfl (by decide) (by decide) hk1 hFc hP1 hD1
    generalize H1 = H at hP hS ⊢
    have hP : va_P (dC, dI) vwCl [(m0, .inr (7, [.ref j0, .ref j1, .ref j2, .ref j3, .ref j4, .int ev, .int ec, .int eg, .int ea, .int es, .int 1, .ref j5, .int el, .ref j6, .ref j7]))] H := hP
    have hD : va_D A [(m0, .inr (7, [.ref j0, .ref j1, .ref j2, .ref j3, .ref j4, .int ev, .int ec, .int eg, .int ea, .int es, .int 1, .ref j5, .int el, .ref j6, .ref j7]))] := hD
    refine W.widen (k := 0) (n := 0) (by decide) (by decide) ?_
    have hw9 : r_1 = 0 := hw9
    subst hw9
    refine lv_if_eq (tgt := 50) hx hb d_Md_variables_22 (by decide) (fun c_22 => ?_) (fun c_22 => absurd c_22 (by decide))
    refine lv_iconst (v := 0) hx hb d_Md_variables_50 (by decide) ?_
    refine W.widen (k := 0) (n := 0) (by decide) (by decide) ?_
    exact W.iret (v := 0) hx hb hr (fun t ht hW => ⟨⟨0, (), rfl, rfl, by rw [ht]; exact hP, va_K.moved hW.alike hK, hD⟩, hS.F ht⟩) hS.2.2 d_Md_variables_51
  · refine lv_iload_n hx hb d_Md_variables_6 rfl (lv_at hl 1 rfl) ?_
    refine lv_sipush (v := 400) hx hb d_Md_variables_7 (by decide) ?_
    refine lv_icmp_gt (tgt := 17) hx hb d_Md_variables_10 (by decide) (fun c_10 => ?_) (fun c_10 => absurd c_10 (by rcases h with h | h; exact absurd h c_3; exact fun q => q h))
    refine lv_iconst (v := 0) hx hb d_Md_variables_17 (by decide) ?_
    refine lv_iconst (v := 1) hx hb d_Md_variables_18 (by decide) ?_
    have hPc := hP.sub (ws' := [(m0, .inr (7, [.ref j0, .ref j1, .ref j2, .ref j3, .ref j4, .int ev, .int ec, .int eg, .int ea, .int es, .int eo, .ref j5, .int el, .ref j6, .ref j7]))]) [0] rfl
    have hDc := hD.sub (ws' := [(m0, .inr (7, [.ref j0, .ref j1, .ref j2, .ref j3, .ref j4, .int ev, .int ec, .int eg, .int ea, .int es, .int eo, .ref j5, .int el, .ref j6, .ref j7]))]) [0] (by decide) rfl
    have hKc := hK.sub (tys' := []) [] rfl
    have hFc := va_free (wc := [(m0, .inr (7, [.ref j0, .ref j1, .ref j2, .ref j3, .ref j4, .int ev, .int ec, .int eg, .int ea, .int es, .int eo, .ref j5, .int el, .ref j6, .ref j7]))]) hD hS hA [0] rfl
    refine va_calli (va_runV (As := [.int 0, .int 1]) (rest := []) ⟨hx, hb, hml, hown, hw⟩ (c_Md_good_0 l dC dI m0 j0 j1 j2 j3 j4 j5 j6 j7 H.size ev ec eg ea es eo el 1) (cb_V (C := R_Md) 2 hw k_661 k_37 k_658 k_660 k_21 rfl rfl (by decide +kernel) ⟨Nat.le_of_ble_eq_true rfl, Nat.le_of_ble_eq_true rfl⟩) ⟨fun a U g mk q => by obtain ⟨q0, q1, qP, qK, qD⟩ := q; exact ⟨q0, q1, qP, va_K.moved (u := U) (U := U.calling g mk a) (Vm.Alike.refl U.vm) qK, qD⟩, va_recv hKc hPc (ci := 7) (q0 := 0) rfl rfl, fun U hU hW => ⟨rfl, by rw [hU], by rw [hU]; exact hPc, va_K.moved hW.alike hKc, hDc.weaken (fun _ _ _ _ => trivial)⟩⟩ rfl rfl hl.1 rfl (lv_room (Nat.le_of_ble_eq_true rfl)) d_Md_variables_19 ⟨Nat.le_of_ble_eq_true rfl, Nat.le_of_ble_eq_true rfl⟩) hS (fun q _ h => hFc q h) hFc (fun r_2 u t H1 locs ht hvm hw9 hB hz1 hk1 hS => ?_)
    obtain ⟨hP1, hK1, hD1⟩ := hB
    rw [ht] at hP1
    have hK1 := va_K.moved hvm.symm hK1
    obtain ⟨hP, hD⟩ := va_join (wr := []) (w1 := [(m0, .inr (7, [.ref j0, .ref j1, .ref j2, .ref j3, .ref j4, .int ev, .int ec, .int eg, .int ea, .int es, .int 1, .ref j5, .int el, .ref j6, .ref j7]))]) hP hD [0] [] rfl rfl (by decide) (by decide) hk1 hFc hP1 hD1
    generalize H1 = H at hP hS ⊢
    have hP : va_P (dC, dI) vwCl [(m0, .inr (7, [.ref j0, .ref j1, .ref j2, .ref j3, .ref j4, .int ev, .int ec, .int eg, .int ea, .int es, .int 1, .ref j5, .int el, .ref j6, .ref j7]))] H := hP
    have hD : va_D A [(m0, .inr (7, [.ref j0, .ref j1, .ref j2, .ref j3, .ref j4, .int ev, .int ec, .int eg, .int ea, .int es, .int 1, .ref j5, .int el, .ref j6, .ref j7]))] := hD
    refine W.widen (k := 0) (n := 0) (by decide) (by decide) ?_
    have hw9 : r_2 = 0 := hw9
    subst hw9
    refine lv_if_eq (tgt := 50) hx hb d_Md_variables_22 (by decide) (fun c_22 => ?_) (fun c_22 => absurd c_22 (by decide))
    refine lv_iconst (v := 0) hx hb d_Md_variables_50 (by decide) ?_
    refine W.widen (k := 0) (n := 0) (by decide) (by decide) ?_
    exact W.iret (v := 0) hx hb hr (fun t ht hW => ⟨⟨0, (), rfl, rfl, by rw [ht]; exact hP, va_K.moved hW.alike hK, hD⟩, hS.F ht⟩) hS.2.2 d_Md_variables_51

set_option maxHeartbeats 4000000 in
set_option maxRecDepth 100000 in
/-- variables(n) -/
theorem c_Md_variables (l : Launch) (dC : Nat → ClassId) (dI : Nat → Nat → Nat) (m0 : Nat) (j0 : Nat) (j1 : Nat) (j2 : Nat) (j3 : Nat) (j4 : Nat) (j5 : Nat) (j6 : Nat) (j7 : Nat) (sz : Nat) (ev : Int32) (ec : Int32) (eg : Int32) (ea : Int32) (es : Int32) (eo : Int32) (el : Int32) (p0 : Int32) (h1 : ¬ p0 < 1) (h2 : ¬ 400 < p0) (h3 : ¬ 400 < ev + p0) : Met l y_Md_variables (wq y_Md_variables prog_9_method_4_code 2 (some .int)) ({ frames := 1, cells := 0, slots := 0, locals := 22 }) (va_Pc [.ref m0, .int p0] (fun U => U.heap.size = sz ∧ va_P (dC, dI) vwCl [(m0, .inr (7, [.ref j0, .ref j1, .ref j2, .ref j3, .ref j4, .int ev, .int ec, .int eg, .int ea, .int es, .int eo, .ref j5, .int el, .ref j6, .ref j7]))] U.heap ∧ va_K (dC, dI) vwCl [] U ∧ va_D (fun _ => True) [(m0, .inr (7, [.ref j0, .ref j1, .ref j2, .ref j3, .ref j4, .int ev, .int ec, .int eg, .int ea, .int es, .int eo, .ref j5, .int el, .ref j6, .ref j7]))])) (va_Qi (fun (r : Int32) (_ : Unit) => r = ev + p0) (fun (_ : Unit) t => va_P (dC, dI) vwCl [(m0, .inr (7, [.ref j0, .ref j1, .ref j2, .ref j3, .ref j4, .int (ev + p0), .int ec, .int eg, .int ea, .int 0, .int 0, .ref j5, .int el, .ref j6, .ref j7]))] t.heap ∧ va_K (dC, dI) vwCl [] t ∧ va_D (va_A [(m0, .inr (7, [.ref j0, .ref j1, .ref j2, .ref j3, .ref j4, .int ev, .int ec, .int eg, .int ea, .int es, .int eo, .ref j5, .int el, .ref j6, .ref j7]))] sz) [(m0, .inr (7, [.ref j0, .ref j1, .ref j2, .ref j3, .ref j4, .int (ev + p0), .int ec, .int eg, .int ea, .int 0, .int 0, .ref j5, .int el, .ref j6, .ref j7]))]) (va_A [(m0, .inr (7, [.ref j0, .ref j1, .ref j2, .ref j3, .ref j4, .int ev, .int ec, .int eg, .int ea, .int es, .int eo, .ref j5, .int el, .ref j6, .ref j7]))] sz)) 0 0 (va_A [(m0, .inr (7, [.ref j0, .ref j1, .ref j2, .ref j3, .ref j4, .int ev, .int ec, .int eg, .int ea, .int es, .int eo, .ref j5, .int el, .ref j6, .ref j7]))] sz) := by
  refine Met.ofW (cc := prog_9_method_4_code) (maxL := 2) (ret := (some .int)) (by decide) rfl ?_
  intro p e s m args below meth c s₁ B hml hv
  obtain ⟨rfl, hsz, hP, hK, hD0⟩ := hv
  have hx := B.exec
  have hb := B.bytes
  have hr := B.returns
  have hw : ∀ w ∈ bg_W, w.before #[Value.ref m0, Value.int p0] s = true := fun w h => atoms_spec (ws := (wq y_Md_variables prog_9_method_4_code 2 (some .int))) B.pre w (List.mem_cons_of_mem _ h)
  have hown : s.vm.findClass R_Md = some m.cls := findClass_of_methodNamed B.named
  have hlocks := B.notSynchronized
  subst hsz
  have hD := hD0.self (sz := s.heap.size)
  generalize hAe : va_A [(m0, .inr (7, [.ref j0, .ref j1, .ref j2, .ref j3, .ref j4, .int ev, .int ec, .int eg, .int ea, .int es, .int eo, .ref j5, .int el, .ref j6, .ref j7]))] s.heap.size = A at hD ⊢
  have hA : ∀ q : Nat, s.heap.size ≤ q → A q := fun q h => by rw [← hAe]; exact Or.inr h
  have hS : va_S A s.heap s.heap [] := va_S.rf
  have hP : va_P (dC, dI) vwCl [(m0, .inr (7, [.ref j0, .ref j1, .ref j2, .ref j3, .ref j4, .int ev, .int ec, .int eg, .int ea, .int es, .int eo, .ref j5, .int el, .ref j6, .ref j7]))] s.heap := hP
  have hl := lv_entry ([.ref m0, .int p0]) (n := 2) (Nat.le_of_ble_eq_true rfl)
  rw [lg_entry_eq]
  generalize (lg_sl ([.ref m0, .int p0]) ++ List.replicate (2 - (lg_sl ([.ref m0, .int p0])).length) Slot.unset).toArray = ls at hl ⊢
  have hl : lv_has ls 2 [(0, .ref m0), (1, .int p0)] := hl
  obtain ⟨H, hH⟩ : ∃ H : Heap, H = s.heap := ⟨_, rfl⟩
  rw [← hH] at hP
  have hS : va_S A s.heap H [] := by rw [hH]; exact va_S.rf
  show W p l e _ s m _ below meth c s.heap [] 0 0 _ _
  rw [← hH]
  refine lv_aload_n hx hb d_Md_variables_0 rfl (lv_at hl 0 rfl) ?_
  refine lv_iload_n hx hb d_Md_variables_1 rfl (lv_at hl 1 rfl) ?_
  refine lv_iconst (v := 1) hx hb d_Md_variables_2 (by decide) ?_
  refine lv_icmp_lt (tgt := 17) hx hb d_Md_variables_3 (by decide) (fun c_3 => absurd c_3 (h1)) (fun c_3 => ?_)
  refine lv_iload_n hx hb d_Md_variables_6 rfl (lv_at hl 1 rfl) ?_
  refine lv_sipush (v := 400) hx hb d_Md_variables_7 (by decide) ?_
  refine lv_icmp_gt (tgt := 17) hx hb d_Md_variables_10 (by decide) (fun c_10 => absurd c_10 (h2)) (fun c_10 => ?_)
  refine lv_iconst (v := 1) hx hb d_Md_variables_13 (by decide) ?_
  refine lv_goto (tgt := 18) hx hb d_Md_variables_14 (by decide) ?_
  refine lv_iconst (v := 1) hx hb d_Md_variables_18 (by decide) ?_
  have hPc := hP.sub (ws' := [(m0, .inr (7, [.ref j0, .ref j1, .ref j2, .ref j3, .ref j4, .int ev, .int ec, .int eg, .int ea, .int es, .int eo, .ref j5, .int el, .ref j6, .ref j7]))]) [0] rfl
  have hDc := hD.sub (ws' := [(m0, .inr (7, [.ref j0, .ref j1, .ref j2, .ref j3, .ref j4, .int ev, .int ec, .int eg, .int ea, .int es, .int eo, .ref j5, .int el, .ref j6, .ref j7]))]) [0] (by decide) rfl
  have hKc := hK.sub (tys' := []) [] rfl
  have hFc := va_free (wc := [(m0, .inr (7, [.ref j0, .ref j1, .ref j2, .ref j3, .ref j4, .int ev, .int ec, .int eg, .int ea, .int es, .int eo, .ref j5, .int el, .ref j6, .ref j7]))]) hD hS hA [0] rfl
  refine va_calli (va_runV (As := [.int 1, .int 1]) (rest := []) ⟨hx, hb, hml, hown, hw⟩ (c_Md_good_1 l dC dI m0 j0 j1 j2 j3 j4 j5 j6 j7 H.size ev ec eg ea es eo el 1) (cb_V (C := R_Md) 2 hw k_661 k_37 k_658 k_660 k_21 rfl rfl (by decide +kernel) ⟨Nat.le_of_ble_eq_true rfl, Nat.le_of_ble_eq_true rfl⟩) ⟨fun a U g mk q => by obtain ⟨q0, q1, qP, qK, qD⟩ := q; exact ⟨q0, q1, qP, va_K.moved (u := U) (U := U.calling g mk a) (Vm.Alike.refl U.vm) qK, qD⟩, va_recv hKc hPc (ci := 7) (q0 := 0) rfl rfl, fun U hU hW => ⟨rfl, by rw [hU], by rw [hU]; exact hPc, va_K.moved hW.alike hKc, hDc.weaken (fun _ _ _ _ => trivial)⟩⟩ rfl rfl hl.1 rfl (lv_room (Nat.le_of_ble_eq_true rfl)) d_Md_variables_19 ⟨Nat.le_of_ble_eq_true rfl, Nat.le_of_ble_eq_true rfl⟩) hS (fun q _ h => hFc q h) hFc (fun r_1 u t H1 locs ht hvm hw9 hB hz1 hk1 hS => ?_)
  obtain ⟨hP1, hK1, hD1⟩ := hB
  rw [ht] at hP1
  have hK1 := va_K.moved hvm.symm hK1
  obtain ⟨hP, hD⟩ := va_join (wr := []) (w1 := [(m0, .inr (7, [.ref j0, .ref j1, .ref j2, .ref j3, .ref j4, .int ev, .int ec, .int eg, .int ea, .int es, .int 0, .ref j5, .int el, .ref j6, .ref j7]))]) hP hD [0] [] rfl rfl (by decide) (by decide) hk1 hFc hP1 hD1
  generalize H1 = H at hP hS ⊢
  have hP : va_P (dC, dI) vwCl [(m0, .inr (7, [.ref j0, .ref j1, .ref j2, .ref j3, .ref j4, .int ev, .int ec, .int eg, .int ea, .int es, .int 0, .ref j5, .int el, .ref j6, .ref j7]))] H := hP
  have hD : va_D A [(m0, .inr (7, [.ref j0, .ref j1, .ref j2, .ref j3, .ref j4, .int ev, .int ec, .int eg, .int ea, .int es, .int 0, .ref j5, .int el, .ref j6, .ref j7]))] := hD
  refine W.widen (k := 0) (n := 0) (by decide) (by decide) ?_
  have hw9 : r_1 = 1 := hw9
  subst hw9
  refine lv_if_eq (tgt := 50) hx hb d_Md_variables_22 (by decide) (fun c_22 => absurd c_22 (by decide)) (fun c_22 => ?_)
  refine lv_aload_n hx hb d_Md_variables_25 rfl (lv_at hl 0 rfl) ?_
  refine lv_aload_n hx hb d_Md_variables_26 rfl (lv_at hl 0 rfl) ?_
  refine va_get (D := (dC, dI)) (ci := 7) (v := .int ev) (C := R_Md) (T := F_Md) (N := 15) hx hb hw in_Md hown hK hP 0 rfl rfl 5 (by decide) (hw (Cond.fieldLink "ClauseSearchModel" 43 "ClauseSearchModel" "variables" "I") k_609) (fun _ h9 => h9) rfl d_Md_variables_27 ?_
  refine lv_iload_n hx hb d_Md_variables_30 rfl (lv_at hl 1 rfl) ?_
  refine lv_iadd hx hb d_Md_variables_31 ?_
  refine lv_sipush (v := 400) hx hb d_Md_variables_32 (by decide) ?_
  refine lv_icmp_gt (tgt := 42) hx hb d_Md_variables_35 (by decide) (fun c_35 => absurd c_35 (h3)) (fun c_35 => ?_)
  refine lv_iconst (v := 1) hx hb d_Md_variables_38 (by decide) ?_
  refine lv_goto (tgt := 43) hx hb d_Md_variables_39 (by decide) ?_
  refine lv_iconst (v := 2) hx hb d_Md_variables_43 (by decide) ?_
  have hPc := hP.sub (ws' := [(m0, .inr (7, [.ref j0, .ref j1, .ref j2, .ref j3, .ref j4, .int ev, .int ec, .int eg, .int ea, .int es, .int 0, .ref j5, .int el, .ref j6, .ref j7]))]) [0] rfl
  have hDc := hD.sub (ws' := [(m0, .inr (7, [.ref j0, .ref j1, .ref j2, .ref j3, .ref j4, .int ev, .int ec, .int eg, .int ea, .int es, .int 0, .ref j5, .int el, .ref j6, .ref j7]))]) [0] (by decide) rfl
  have hKc := hK.sub (tys' := []) [] rfl
  have hFc := va_free (wc := [(m0, .inr (7, [.ref j0, .ref j1, .ref j2, .ref j3, .ref j4, .int ev, .int ec, .int eg, .int ea, .int es, .int 0, .ref j5, .int el, .ref j6, .ref j7]))]) hD hS hA [0] rfl
  refine va_calli (va_runV (As := [.int 1, .int 2]) (rest := []) ⟨hx, hb, hml, hown, hw⟩ (c_Md_good_1 l dC dI m0 j0 j1 j2 j3 j4 j5 j6 j7 H.size ev ec eg ea es 0 el 2) (cb_V (C := R_Md) 2 hw k_661 k_37 k_658 k_660 k_21 rfl rfl (by decide +kernel) ⟨Nat.le_of_ble_eq_true rfl, Nat.le_of_ble_eq_true rfl⟩) ⟨fun a U g mk q => by obtain ⟨q0, q1, qP, qK, qD⟩ := q; exact ⟨q0, q1, qP, va_K.moved (u := U) (U := U.calling g mk a) (Vm.Alike.refl U.vm) qK, qD⟩, va_recv hKc hPc (ci := 7) (q0 := 0) rfl rfl, fun U hU hW => ⟨rfl, by rw [hU], by rw [hU]; exact hPc, va_K.moved hW.alike hKc, hDc.weaken (fun _ _ _ _ => trivial)⟩⟩ rfl rfl hl.1 rfl (lv_room (Nat.le_of_ble_eq_true rfl)) d_Md_variables_44 ⟨Nat.le_of_ble_eq_true rfl, Nat.le_of_ble_eq_true rfl⟩) hS (fun q _ h => hFc q h) hFc (fun r_2 u t H1 locs ht hvm hw9 hB hz1 hk1 hS => ?_)
  obtain ⟨hP1, hK1, hD1⟩ := hB
  rw [ht] at hP1
  have hK1 := va_K.moved hvm.symm hK1
  obtain ⟨hP, hD⟩ := va_join (wr := []) (w1 := [(m0, .inr (7, [.ref j0, .ref j1, .ref j2, .ref j3, .ref j4, .int ev, .int ec, .int eg, .int ea, .int es, .int 0, .ref j5, .int el, .ref j6, .ref j7]))]) hP hD [0] [] rfl rfl (by decide) (by decide) hk1 hFc hP1 hD1
  generalize H1 = H at hP hS ⊢
  have hP : va_P (dC, dI) vwCl [(m0, .inr (7, [.ref j0, .ref j1, .ref j2, .ref j3, .ref j4, .int ev, .int ec, .int eg, .int ea, .int es, .int 0, .ref j5, .int el, .ref j6, .ref j7]))] H := hP
  have hD : va_D A [(m0, .inr (7, [.ref j0, .ref j1, .ref j2, .ref j3, .ref j4, .int ev, .int ec, .int eg, .int ea, .int es, .int 0, .ref j5, .int el, .ref j6, .ref j7]))] := hD
  refine W.widen (k := 0) (n := 0) (by decide) (by decide) ?_
  have hw9 : r_2 = 1 := hw9
  subst hw9
  refine lv_if_ne (tgt := 52) hx hb d_Md_variables_47 (by decide) (fun c_47 => ?_) (fun c_47 => absurd c_47 (by decide))
  refine lv_aload_n hx hb d_Md_variables_52 rfl (lv_at hl 0 rfl) ?_
  refine lv_dup hx hb d_Md_variables_53 rfl ?_
  refine va_get (D := (dC, dI)) (ci := 7) (v := .int ev) (C := R_Md) (T := F_Md) (N := 15) hx hb hw in_Md hown hK hP 0 rfl rfl 5 (by decide) (hw (Cond.fieldLink "ClauseSearchModel" 43 "ClauseSearchModel" "variables" "I") k_609) (fun _ h9 => h9) rfl d_Md_variables_54 ?_
  refine lv_iload_n hx hb d_Md_variables_57 rfl (lv_at hl 1 rfl) ?_
  refine lv_iadd hx hb d_Md_variables_58 ?_
  refine va_put (D := (dC, dI)) (ci := 7) (v := .int (ev + p0)) (ty := .int) (C := R_Md) (T := F_Md) (N := 15) hx hb hw in_Md t_Md t_Md_ok n_Md hown hK hP hD hS 0 rfl rfl 5 (by decide) (hw (Cond.fieldLink "ClauseSearchModel" 43 "ClauseSearchModel" "variables" "I") k_609) (fun _ h9 => h9) rfl (by decide +kernel) rfl rfl (Nat.le_of_ble_eq_true rfl) d_Md_variables_59 (fun H locs hP hD hS => ?_)
  have hP : va_P (dC, dI) vwCl [(m0, .inr (7, [.ref j0, .ref j1, .ref j2, .ref j3, .ref j4, .int (ev + p0), .int ec, .int eg, .int ea, .int es, .int 0, .ref j5, .int el, .ref j6, .ref j7]))] H := hP
  have hD : va_D A [(m0, .inr (7, [.ref j0, .ref j1, .ref j2, .ref j3, .ref j4, .int (ev + p0), .int ec, .int eg, .int ea, .int es, .int 0, .ref j5, .int el, .ref j6, .ref j7]))] := hD
  refine lv_aload_n hx hb d_Md_variables_62 rfl (lv_at hl 0 rfl) ?_
  refine lv_iconst (v := 0) hx hb d_Md_variables_63 (by decide) ?_
  refine va_put (D := (dC, dI)) (ci := 7) (v := .int 0) (ty := .boolean) (C := R_Md) (T := F_Md) (N := 15) hx hb hw in_Md t_Md t_Md_ok n_Md hown hK hP hD hS 0 rfl rfl 9 (by decide) (hw (Cond.fieldLink "ClauseSearchModel" 46 "ClauseSearchModel" "stands" "Z") k_613) (fun _ h9 => h9) rfl (by decide +kernel) rfl rfl (Nat.le_of_ble_eq_true rfl) d_Md_variables_64 (fun H locs hP hD hS => ?_)
  have hP : va_P (dC, dI) vwCl [(m0, .inr (7, [.ref j0, .ref j1, .ref j2, .ref j3, .ref j4, .int (ev + p0), .int ec, .int eg, .int ea, .int 0, .int 0, .ref j5, .int el, .ref j6, .ref j7]))] H := hP
  have hD : va_D A [(m0, .inr (7, [.ref j0, .ref j1, .ref j2, .ref j3, .ref j4, .int (ev + p0), .int ec, .int eg, .int ea, .int 0, .int 0, .ref j5, .int el, .ref j6, .ref j7]))] := hD
  refine lv_aload_n hx hb d_Md_variables_67 rfl (lv_at hl 0 rfl) ?_
  refine va_get (D := (dC, dI)) (ci := 7) (v := .int (ev + p0)) (C := R_Md) (T := F_Md) (N := 15) hx hb hw in_Md hown hK hP 0 rfl rfl 5 (by decide) (hw (Cond.fieldLink "ClauseSearchModel" 43 "ClauseSearchModel" "variables" "I") k_609) (fun _ h9 => h9) rfl d_Md_variables_68 ?_
  refine W.widen (k := 0) (n := 0) (by decide) (by decide) ?_
  exact W.iret (v := ev + p0) hx hb hr (fun t ht hW => ⟨⟨ev + p0, (), rfl, rfl, by rw [ht]; exact hP, va_K.moved hW.alike hK, hD⟩, hS.F ht⟩) hS.2.2 d_Md_variables_71

set_option maxHeartbeats 4000000 in
set_option maxRecDepth 100000 in
/-- give(l) refuses l -/
theorem c_Md_give_1 (l : Launch) (dC : Nat → ClassId) (dI : Nat → Nat → Nat) (m0 : Nat) (j0 : Nat) (j1 : Nat) (j2 : Nat) (j3 : Nat) (j4 : Nat) (j5 : Nat) (j6 : Nat) (j7 : Nat) (sz : Nat) (ev : Int32) (ec : Int32) (eg : Int32) (ea : Int32) (es : Int32) (eo : Int32) (el : Int32) (p0 : Int32) (h : p0 = 0 ∨ p0 < -ev ∨ ev < p0) : Met l y_Md_give (wq y_Md_give prog_9_method_5_code 3 (some .int)) ({ frames := 1, cells := 0, slots := 0, locals := 22 }) (va_Pc [.ref m0, .int p0] (fun U => U.heap.size = sz ∧ va_P (dC, dI) vwCl [(m0, .inr (7, [.ref j0, .ref j1, .ref j2, .ref j3, .ref j4, .int ev, .int ec, .int eg, .int ea, .int es, .int eo, .ref j5, .int el, .ref j6, .ref j7]))] U.heap ∧ va_K (dC, dI) vwCl [] U ∧ va_D (fun _ => True) [(m0, .inr (7, [.ref j0, .ref j1, .ref j2, .ref j3, .ref j4, .int ev, .int ec, .int eg, .int ea, .int es, .int eo, .ref j5, .int el, .ref j6, .ref j7]))])) (va_Qi (fun (r : Int32) (_ : Unit) => r = 0) (fun (_ : Unit) t => va_P (dC, dI) vwCl [(m0, .inr (7, [.ref j0, .ref j1, .ref j2, .ref j3, .ref j4, .int ev, .int ec, .int eg, .int ea, .int es, .int 1, .ref j5, .int el, .ref j6, .ref j7]))] t.heap ∧ va_K (dC, dI) vwCl [] t ∧ va_D (va_A [(m0, .inr (7, [.ref j0, .ref j1, .ref j2, .ref j3, .ref j4, .int ev, .int ec, .int eg, .int ea, .int es, .int eo, .ref j5, .int el, .ref j6, .ref j7]))] sz) [(m0, .inr (7, [.ref j0, .ref j1, .ref j2, .ref j3, .ref j4, .int ev, .int ec, .int eg, .int ea, .int es, .int 1, .ref j5, .int el, .ref j6, .ref j7]))]) (va_A [(m0, .inr (7, [.ref j0, .ref j1, .ref j2, .ref j3, .ref j4, .int ev, .int ec, .int eg, .int ea, .int es, .int eo, .ref j5, .int el, .ref j6, .ref j7]))] sz)) 0 0 (va_A [(m0, .inr (7, [.ref j0, .ref j1, .ref j2, .ref j3, .ref j4, .int ev, .int ec, .int eg, .int ea, .int es, .int eo, .ref j5, .int el, .ref j6, .ref j7]))] sz) := by
  refine Met.ofW (cc := prog_9_method_5_code) (maxL := 3) (ret := (some .int)) (by decide) rfl ?_
  intro p e s m args below meth c s₁ B hml hv
  obtain ⟨rfl, hsz, hP, hK, hD0⟩ := hv
  have hx := B.exec
  have hb := B.bytes
  have hr := B.returns
  have hw : ∀ w ∈ bg_W, w.before #[Value.ref m0, Value.int p0] s = true := fun w h => atoms_spec (ws := (wq y_Md_give prog_9_method_5_code 3 (some .int))) B.pre w (List.mem_cons_of_mem _ h)
  have hown : s.vm.findClass R_Md = some m.cls := findClass_of_methodNamed B.named
  have hlocks := B.notSynchronized
  subst hsz
  have hD := hD0.self (sz := s.heap.size)
  generalize hAe : va_A [(m0, .inr (7, [.ref j0, .ref j1, .ref j2, .ref j3, .ref j4, .int ev, .int ec, .int eg, .int ea, .int es, .int eo, .ref j5, .int el, .ref j6, .ref j7]))] s.heap.size = A at hD ⊢
  have hA : ∀ q : Nat, s.heap.size ≤ q → A q := fun q h => by rw [← hAe]; exact Or.inr h
  have hS : va_S A s.heap s.heap [] := va_S.rf
  have hP : va_P (dC, dI) vwCl [(m0, .inr (7, [.ref j0, .ref j1, .ref j2, .ref j3, .ref j4, .int ev, .int ec, .int eg, .int ea, .int es, .int eo, .ref j5, .int el, .ref j6, .ref j7]))] s.heap := hP
  have hl := lv_entry ([.ref m0, .int p0]) (n := 3) (Nat.le_of_ble_eq_true rfl)
  rw [lg_entry_eq]
  generalize (lg_sl ([.ref m0, .int p0]) ++ List.replicate (3 - (lg_sl ([.ref m0, .int p0])).length) Slot.unset).toArray = ls at hl ⊢
  have hl : lv_has ls 3 [(0, .ref m0), (1, .int p0)] := hl
  obtain ⟨H, hH⟩ : ∃ H : Heap, H = s.heap := ⟨_, rfl⟩
  rw [← hH] at hP
  have hS : va_S A s.heap H [] := by rw [hH]; exact va_S.rf
  show W p l e _ s m _ below meth c s.heap [] 0 0 _ _
  rw [← hH]
  refine lv_iload_n hx hb d_Md_give_0 rfl (lv_at hl 1 rfl) ?_
  refine lv_if_eq (tgt := 25) hx hb d_Md_give_1 (by decide) (fun c_1 => ?_) (fun c_1 => ?_)
  · refine lv_iconst (v := 0) hx hb d_Md_give_25 (by decide) ?_
    refine lv_istore_n (lv' := [(2, .int 0), (0, .ref m0), (1, .int p0)]) hx hb d_Md_give_26 rfl hl (by decide) rfl (fun ls hl => ?_)
    refine lv_aload_n hx hb d_Md_give_27 rfl (lv_at hl 1 rfl) ?_
    refine lv_iload_n hx hb d_Md_give_28 rfl (lv_at hl 0 rfl) ?_
    refine lv_iconst (v := 1) hx hb d_Md_give_29 (by decide) ?_
    have hPc := hP.sub (ws' := [(m0, .inr (7, [.ref j0, .ref j1, .ref j2, .ref j3, .ref j4, .int ev, .int ec, .int eg, .int ea, .int es, .int eo, .ref j5, .int el, .ref j6, .ref j7]))]) [0] rfl
    have hDc := hD.sub (ws' := [(m0, .inr (7, [.ref j0, .ref j1, .ref j2, .ref j3, .ref j4, .int ev, .int ec, .int eg, .int ea, .int es, .int eo, .ref j5, .int el, .ref j6, .ref j7]))]) [0] (by decide) rfl
    have hKc := hK.sub (tys' := []) [] rfl
    have hFc := va_free (wc := [(m0, .inr (7, [.ref j0, .ref j1, .ref j2, .ref j3, .ref j4, .int ev, .int ec, .int eg, .int ea, .int es, .int eo, .ref j5, .int el, .ref j6, .ref j7]))]) hD hS hA [0] rfl
    refine va_calli (va_runV (As := [.int 0, .int 1]) (rest := []) ⟨hx, hb, hml, hown, hw⟩ (c_Md_good_0 l dC dI m0 j0 j1 j2 j3 j4 j5 j6 j7 H.size ev ec eg ea es eo el 1) (cb_V (C := R_Md) 2 hw k_661 k_37 k_658 k_660 k_21 rfl rfl (by decide +kernel) ⟨Nat.le_of_ble_eq_true rfl, Nat.le_of_ble_eq_true rfl⟩) ⟨fun a U g mk q => by obtain ⟨q0, q1, qP, qK, qD⟩ := q; exact ⟨q0, q1, qP, va_K.moved (u := U) (U := U.calling g mk a) (Vm.Alike.refl U.vm) qK, qD⟩, va_recv hKc hPc (ci := 7) (q0 := 0) rfl rfl, fun U hU hW => ⟨rfl, by rw [hU], by rw [hU]; exact hPc, va_K.moved hW.alike hKc, hDc.weaken (fun _ _ _ _ => trivial)⟩⟩ rfl rfl hl.1 rfl (lv_room (Nat.le_of_ble_eq_true rfl)) d_Md_give_30 ⟨Nat.le_of_ble_eq_true rfl, Nat.le_of_ble_eq_true rfl⟩) hS (fun q _ h => hFc q h) hFc (fun r_1 u t H1 locs ht hvm hw9 hB hz1 hk1 hS => ?_)
    obtain ⟨hP1, hK1, hD1⟩ := hB
    rw [ht] at hP1
    have hK1 := va_K.moved hvm.symm hK1
    obtain ⟨hP, hD⟩ := va_join (wr := []) (w1 := [(m0, .inr (7, [.ref j0, .ref j1, .ref j2, .ref j3, .ref j4, .int ev, .int ec, .int eg, .int ea, .int es, .int 1, .ref j5, .int el, .ref j6, .ref j7]))]) hP hD [0] [] rfl rfl (by decide) (by decide) hk1 hFc hP1 hD1
    generalize H1 = H at hP hS ⊢
    have hP : va_P (dC, dI) vwCl [(m0, .inr (7, [.ref j0, .ref j1, .ref j2, .ref j3, .ref j4, .int ev, .int ec, .int eg, .int ea, .int es, .int 1, .ref j5, .int el, .ref j6, .ref j7]))] H := hP
    have hD : va_D A [(m0, .inr (7, [.ref j0, .ref j1, .ref j2, .ref j3, .ref j4, .int ev, .int ec, .int eg, .int ea, .int es, .int 1, .ref j5, .int el, .ref j6, .ref j7]))] := hD
    refine W.widen (k := 0) (n := 0) (by decide) (by decide) ?_
    have hw9 : r_1 = 0 := hw9
    subst hw9
    refine lv_if_eq (tgt := 58) hx hb d_Md_give_33 (by decide) (fun c_33 => ?_) (fun c_33 => absurd c_33 (by decide))
    refine lv_iconst (v := 0) hx hb d_Md_give_58 (by decide) ?_
    refine W.widen (k := 0) (n := 0) (by decide) (by decide) ?_
    exact W.iret (v := 0) hx hb hr (fun t ht hW => ⟨⟨0, (), rfl, rfl, by rw [ht]; exact hP, va_K.moved hW.alike hK, hD⟩, hS.F ht⟩) hS.2.2 d_Md_give_59
  · refine lv_iload_n hx hb d_Md_give_4 rfl (lv_at hl 1 rfl) ?_
    refine lv_aload_n hx hb d_Md_give_5 rfl (lv_at hl 0 rfl) ?_
    refine va_get (D := (dC, dI)) (ci := 7) (v := .int ev) (C := R_Md) (T := F_Md) (N := 15) hx hb hw in_Md hown hK hP 0 rfl rfl 5 (by decide) (hw (Cond.fieldLink "ClauseSearchModel" 43 "ClauseSearchModel" "variables" "I") k_609) (fun _ h9 => h9) rfl d_Md_give_6 ?_
    refine lv_ineg hx hb d_Md_give_9 ?_
    refine lv_icmp_lt (tgt := 25) hx hb d_Md_give_10 (by decide) (fun c_10 => ?_) (fun c_10 => ?_)
    · refine lv_iconst (v := 0) hx hb d_Md_give_25 (by decide) ?_
      refine lv_istore_n (lv' := [(2, .int 0), (0, .ref m0), (1, .int p0)]) hx hb d_Md_give_26 rfl hl (by decide) rfl (fun ls hl => ?_)
      refine lv_aload_n hx hb d_Md_give_27 rfl (lv_at hl 1 rfl) ?_
      refine lv_iload_n hx hb d_Md_give_28 rfl (lv_at hl 0 rfl) ?_
      refine lv_iconst (v := 1) hx hb d_Md_give_29 (by decide) ?_
      have hPc := hP.sub (ws' := [(m0, .inr (7, [.ref j0, .ref j1, .ref j2, .ref j3, .ref j4, .int ev, .int ec, .int eg, .int ea, .int es, .int eo, .ref j5, .int el, .ref j6, .ref j7]))]) [0] rfl
      have hDc := hD.sub (ws' := [(m0, .inr (7, [.ref j0, .ref j1, .ref j2, .ref j3, .ref j4, .int ev, .int ec, .int eg, .int ea, .int es, .int eo, .ref j5, .int el, .ref j6, .ref j7]))]) [0] (by decide) rfl
      have hKc := hK.sub (tys' := []) [] rfl
      have hFc := va_free (wc := [(m0, .inr (7, [.ref j0, .ref j1, .ref j2, .ref j3, .ref j4, .int ev, .int ec, .int eg, .int ea, .int es, .int eo, .ref j5, .int el, .ref j6, .ref j7]))]) hD hS hA [0] rfl
      refine va_calli (va_runV (As := [.int 0, .int 1]) (rest := []) ⟨hx, hb, hml, hown, hw⟩ (c_Md_good_0 l dC dI m0 j0 j1 j2 j3 j4 j5 j6 j7 H.size ev ec eg ea es eo el 1) (cb_V (C := R_Md) 2 hw k_661 k_37 k_658 k_660 k_21 rfl rfl (by decide +kernel) ⟨Nat.le_of_ble_eq_true rfl, Nat.le_of_ble_eq_true rfl⟩) ⟨fun a U g mk q => by obtain ⟨q0, q1, qP, qK, qD⟩ := q; exact ⟨q0, q1, qP, va_K.moved (u := U) (U := U.calling g mk a) (Vm.Alike.refl U.vm) qK, qD⟩, va_recv hKc hPc (ci := 7) (q0 := 0) rfl rfl, fun U hU hW => ⟨rfl, by rw [hU], by rw [hU]; exact hPc, va_K.moved hW.alike hKc, hDc.weaken (fun _ _ _ _ => trivial)⟩⟩ rfl rfl hl.1 rfl (lv_room (Nat.le_of_ble_eq_true rfl)) d_Md_give_30 ⟨Nat.le_of_ble_eq_true rfl, Nat.le_of_ble_eq_true rfl⟩) hS (fun q _ h => hFc q h) hFc (fun r_2 u t H1 locs ht hvm hw9 hB hz1 hk1 hS => ?_)
      obtain ⟨hP1, hK1, hD1⟩ := hB
      rw [ht] at hP1
      have hK1 := va_K.moved hvm.symm hK1
      obtain ⟨hP, hD⟩ := va_join (wr := []) (w1 := [(m0, .inr (7, [.ref j0, .ref j1, .ref j2, .ref j3, .ref j4, .int ev, .int ec, .int eg, .int ea, .int es, .int 1, .ref j5, .int el, .ref j6, .ref j7]))]) hP hD [0] [] rfl rfl (by decide) (by decide) hk1 hFc hP1 hD1
      generalize H1 = H at hP hS ⊢
      have hP : va_P (dC, dI) vwCl [(m0, .inr (7, [.ref j0, .ref j1, .ref j2, .ref j3, .ref j4, .int ev, .int ec, .int eg, .int ea, .int es, .int 1, .ref j5, .int el, .ref j6, .ref j7]))] H := hP
      have hD : va_D A [(m0, .inr (7, [.ref j0, .ref j1, .ref j2, .ref j3, .ref j4, .int ev, .int ec, .int eg, .int ea, .int es, .int 1, .ref j5, .int el, .ref j6, .ref j7]))] := hD
      refine W.widen (k := 0) (n := 0) (by decide) (by decide) ?_
      have hw9 : r_2 = 0 := hw9
      subst hw9
      refine lv_if_eq (tgt := 58) hx hb d_Md_give_33 (by decide) (fun c_33 => ?_) (fun c_33 => absurd c_33 (by decide))
      refine lv_iconst (v := 0) hx hb d_Md_give_58 (by decide) ?_
      refine W.widen (k := 0) (n := 0) (by decide) (by decide) ?_
      exact W.iret (v := 0) hx hb hr (fun t ht hW => ⟨⟨0, (), rfl, rfl, by rw [ht]; exact hP, va_K.moved hW.alike hK, hD⟩, hS.F ht⟩) hS.2.2 d_Md_give_59
    · refine lv_iload_n hx hb d_Md_give_13 rfl (lv_at hl 1 rfl) ?_
      refine lv_aload_n hx hb d_Md_give_14 rfl (lv_at hl 0 rfl) ?_
      refine va_get (D := (dC, dI)) (ci := 7) (v := .int ev) (C := R_Md) (T := F_Md) (N := 15) hx hb hw in_Md hown hK hP 0 rfl rfl 5 (by decide) (hw (Cond.fieldLink "ClauseSearchModel" 43 "ClauseSearchModel" "variables" "I") k_609) (fun _ h9 => h9) rfl d_Md_give_15 ?_
      refine lv_icmp_gt (tgt := 25) hx hb d_Md_give_18 (by decide) (fun c_18 => ?_) (fun c_18 => absurd c_18 (by rcases h with h | h | h; exact absurd h c_1; exact absurd h c_10; exact fun q => q h))
      refine lv_iconst (v := 0) hx hb d_Md_give_25 (by decide) ?_
      refine lv_istore_n (lv' := [(2, .int 0), (0, .ref m0), (1, .int p0)]) hx hb d_Md_give_26 rfl hl (by decide) rfl (fun ls hl => ?_)
      refine lv_aload_n hx hb d_Md_give_27 rfl (lv_at hl 1 rfl) ?_
      refine lv_iload_n hx hb d_Md_give_28 rfl (lv_at hl 0 rfl) ?_
      refine lv_iconst (v := 1) hx hb d_Md_give_29 (by decide) ?_
      have hPc := hP.sub (ws' := [(m0, .inr (7, [.ref j0, .ref j1, .ref j2, .ref j3, .ref j4, .int ev, .int ec, .int eg, .int ea, .int es, .int eo, .ref j5, .int el, .ref j6, .ref j7]))]) [0] rfl
      have hDc := hD.sub (ws' := [(m0, .inr (7, [.ref j0, .ref j1, .ref j2, .ref j3, .ref j4, .int ev, .int ec, .int eg, .int ea, .int es, .int eo, .ref j5, .int el, .ref j6, .ref j7]))]) [0] (by decide) rfl
      have hKc := hK.sub (tys' := []) [] rfl
      have hFc := va_free (wc := [(m0, .inr (7, [.ref j0, .ref j1, .ref j2, .ref j3, .ref j4, .int ev, .int ec, .int eg, .int ea, .int es, .int eo, .ref j5, .int el, .ref j6, .ref j7]))]) hD hS hA [0] rfl
      refine va_calli (va_runV (As := [.int 0, .int 1]) (rest := []) ⟨hx, hb, hml, hown, hw⟩ (c_Md_good_0 l dC dI m0 j0 j1 j2 j3 j4 j5 j6 j7 H.size ev ec eg ea es eo el 1) (cb_V (C := R_Md) 2 hw k_661 k_37 k_658 k_660 k_21 rfl rfl (by decide +kernel) ⟨Nat.le_of_ble_eq_true rfl, Nat.le_of_ble_eq_true rfl⟩) ⟨fun a U g mk q => by obtain ⟨q0, q1, qP, qK, qD⟩ := q; exact ⟨q0, q1, qP, va_K.moved (u := U) (U := U.calling g mk a) (Vm.Alike.refl U.vm) qK, qD⟩, va_recv hKc hPc (ci := 7) (q0 := 0) rfl rfl, fun U hU hW => ⟨rfl, by rw [hU], by rw [hU]; exact hPc, va_K.moved hW.alike hKc, hDc.weaken (fun _ _ _ _ => trivial)⟩⟩ rfl rfl hl.1 rfl (lv_room (Nat.le_of_ble_eq_true rfl)) d_Md_give_30 ⟨Nat.le_of_ble_eq_true rfl, Nat.le_of_ble_eq_true rfl⟩) hS (fun q _ h => hFc q h) hFc (fun r_3 u t H1 locs ht hvm hw9 hB hz1 hk1 hS => ?_)
      obtain ⟨hP1, hK1, hD1⟩ := hB
      rw [ht] at hP1
      have hK1 := va_K.moved hvm.symm hK1
      obtain ⟨hP, hD⟩ := va_join (wr := []) (w1 := [(m0, .inr (7, [.ref j0, .ref j1, .ref j2, .ref j3, .ref j4, .int ev, .int ec, .int eg, .int ea, .int es, .int 1, .ref j5, .int el, .ref j6, .ref j7]))]) hP hD [0] [] rfl rfl (by decide) (by decide) hk1 hFc hP1 hD1
      generalize H1 = H at hP hS ⊢
      have hP : va_P (dC, dI) vwCl [(m0, .inr (7, [.ref j0, .ref j1, .ref j2, .ref j3, .ref j4, .int ev, .int ec, .int eg, .int ea, .int es, .int 1, .ref j5, .int el, .ref j6, .ref j7]))] H := hP
      have hD : va_D A [(m0, .inr (7, [.ref j0, .ref j1, .ref j2, .ref j3, .ref j4, .int ev, .int ec, .int eg, .int ea, .int es, .int 1, .ref j5, .int el, .ref j6, .ref j7]))] := hD
      refine W.widen (k := 0) (n := 0) (by decide) (by decide) ?_
      have hw9 : r_3 = 0 := hw9
      subst hw9
      refine lv_if_eq (tgt := 58) hx hb d_Md_give_33 (by decide) (fun c_33 => ?_) (fun c_33 => absurd c_33 (by decide))
      refine lv_iconst (v := 0) hx hb d_Md_give_58 (by decide) ?_
      refine W.widen (k := 0) (n := 0) (by decide) (by decide) ?_
      exact W.iret (v := 0) hx hb hr (fun t ht hW => ⟨⟨0, (), rfl, rfl, by rw [ht]; exact hP, va_K.moved hW.alike hK, hD⟩, hS.F ht⟩) hS.2.2 d_Md_give_59

set_option maxHeartbeats 4000000 in
set_option maxRecDepth 100000 in
/-- clause() refuses an empty row -/
theorem c_Md_clause_1 (l : Launch) (dC : Nat → ClassId) (dI : Nat → Nat → Nat) (m0 : Nat) (j0 : Nat) (j1 : Nat) (j2 : Nat) (j3 : Nat) (j4 : Nat) (j5 : Nat) (j6 : Nat) (j7 : Nat) (sz : Nat) (ev : Int32) (ec : Int32) (eg : Int32) (ea : Int32) (es : Int32) (eo : Int32) (el : Int32) (h : eg ≤ 0) : Met l y_Md_clause (wq y_Md_clause prog_9_method_6_code 2 (some .int)) ({ frames := 1, cells := 0, slots := 0, locals := 22 }) (va_Pc [.ref m0] (fun U => U.heap.size = sz ∧ va_P (dC, dI) vwCl [(m0, .inr (7, [.ref j0, .ref j1, .ref j2, .ref j3, .ref j4, .int ev, .int ec, .int eg, .int ea, .int es, .int eo, .ref j5, .int el, .ref j6, .ref j7]))] U.heap ∧ va_K (dC, dI) vwCl [] U ∧ va_D (fun _ => True) [(m0, .inr (7, [.ref j0, .ref j1, .ref j2, .ref j3, .ref j4, .int ev, .int ec, .int eg, .int ea, .int es, .int eo, .ref j5, .int el, .ref j6, .ref j7]))])) (va_Qi (fun (r : Int32) (_ : Unit) => r = 0) (fun (_ : Unit) t => va_P (dC, dI) vwCl [(m0, .inr (7, [.ref j0, .ref j1, .ref j2, .ref j3, .ref j4, .int ev, .int ec, .int eg, .int ea, .int es, .int 1, .ref j5, .int el, .ref j6, .ref j7]))] t.heap ∧ va_K (dC, dI) vwCl [] t ∧ va_D (va_A [(m0, .inr (7, [.ref j0, .ref j1, .ref j2, .ref j3, .ref j4, .int ev, .int ec, .int eg, .int ea, .int es, .int eo, .ref j5, .int el, .ref j6, .ref j7]))] sz) [(m0, .inr (7, [.ref j0, .ref j1, .ref j2, .ref j3, .ref j4, .int ev, .int ec, .int eg, .int ea, .int es, .int 1, .ref j5, .int el, .ref j6, .ref j7]))]) (va_A [(m0, .inr (7, [.ref j0, .ref j1, .ref j2, .ref j3, .ref j4, .int ev, .int ec, .int eg, .int ea, .int es, .int eo, .ref j5, .int el, .ref j6, .ref j7]))] sz)) 0 0 (va_A [(m0, .inr (7, [.ref j0, .ref j1, .ref j2, .ref j3, .ref j4, .int ev, .int ec, .int eg, .int ea, .int es, .int eo, .ref j5, .int el, .ref j6, .ref j7]))] sz) := by
  refine Met.ofW (cc := prog_9_method_6_code) (maxL := 2) (ret := (some .int)) (by decide) rfl ?_
  intro p e s m args below meth c s₁ B hml hv
  obtain ⟨rfl, hsz, hP, hK, hD0⟩ := hv
  have hx := B.exec
  have hb := B.bytes
  have hr := B.returns
  have hw : ∀ w ∈ bg_W, w.before #[Value.ref m0] s = true := fun w h => atoms_spec (ws := (wq y_Md_clause prog_9_method_6_code 2 (some .int))) B.pre w (List.mem_cons_of_mem _ h)
  have hown : s.vm.findClass R_Md = some m.cls := findClass_of_methodNamed B.named
  have hlocks := B.notSynchronized
  subst hsz
  have hD := hD0.self (sz := s.heap.size)
  generalize hAe : va_A [(m0, .inr (7, [.ref j0, .ref j1, .ref j2, .ref j3, .ref j4, .int ev, .int ec, .int eg, .int ea, .int es, .int eo, .ref j5, .int el, .ref j6, .ref j7]))] s.heap.size = A at hD ⊢
  have hA : ∀ q : Nat, s.heap.size ≤ q → A q := fun q h => by rw [← hAe]; exact Or.inr h
  have hS : va_S A s.heap s.heap [] := va_S.rf
  have hP : va_P (dC, dI) vwCl [(m0, .inr (7, [.ref j0, .ref j1, .ref j2, .ref j3, .ref j4, .int ev, .int ec, .int eg, .int ea, .int es, .int eo, .ref j5, .int el, .ref j6, .ref j7]))] s.heap := hP
  have hl := lv_entry ([.ref m0]) (n := 2) (Nat.le_of_ble_eq_true rfl)
  rw [lg_entry_eq]
  generalize (lg_sl ([.ref m0]) ++ List.replicate (2 - (lg_sl ([.ref m0])).length) Slot.unset).toArray = ls at hl ⊢
  have hl : lv_has ls 2 [(0, .ref m0)] := hl
  obtain ⟨H, hH⟩ : ∃ H : Heap, H = s.heap := ⟨_, rfl⟩
  rw [← hH] at hP
  have hS : va_S A s.heap H [] := by rw [hH]; exact va_S.rf
  show W p l e _ s m _ below meth c s.heap [] 0 0 _ _
  rw [← hH]
  refine lv_aload_n hx hb d_Md_clause_0 rfl (lv_at hl 0 rfl) ?_
  refine lv_aload_n hx hb d_Md_clause_1 rfl (lv_at hl 0 rfl) ?_
  refine va_get (D := (dC, dI)) (ci := 7) (v := .int eg) (C := R_Md) (T := F_Md) (N := 15) hx hb hw in_Md hown hK hP 0 rfl rfl 7 (by decide) (hw (Cond.fieldLink "ClauseSearchModel" 50 "ClauseSearchModel" "given" "I") k_611) (fun _ h9 => h9) rfl d_Md_clause_2 ?_
  refine lv_if_le (tgt := 12) hx hb d_Md_clause_5 (by decide) (fun c_5 => ?_) (fun c_5 => absurd c_5 (fun q => q h))
  refine lv_iconst (v := 0) hx hb d_Md_clause_12 (by decide) ?_
  refine lv_iconst (v := 1) hx hb d_Md_clause_13 (by decide) ?_
  have hPc := hP.sub (ws' := [(m0, .inr (7, [.ref j0, .ref j1, .ref j2, .ref j3, .ref j4, .int ev, .int ec, .int eg, .int ea, .int es, .int eo, .ref j5, .int el, .ref j6, .ref j7]))]) [0] rfl
  have hDc := hD.sub (ws' := [(m0, .inr (7, [.ref j0, .ref j1, .ref j2, .ref j3, .ref j4, .int ev, .int ec, .int eg, .int ea, .int es, .int eo, .ref j5, .int el, .ref j6, .ref j7]))]) [0] (by decide) rfl
  have hKc := hK.sub (tys' := []) [] rfl
  have hFc := va_free (wc := [(m0, .inr (7, [.ref j0, .ref j1, .ref j2, .ref j3, .ref j4, .int ev, .int ec, .int eg, .int ea, .int es, .int eo, .ref j5, .int el, .ref j6, .ref j7]))]) hD hS hA [0] rfl
  refine va_calli (va_runV (As := [.int 0, .int 1]) (rest := []) ⟨hx, hb, hml, hown, hw⟩ (c_Md_good_0 l dC dI m0 j0 j1 j2 j3 j4 j5 j6 j7 H.size ev ec eg ea es eo el 1) (cb_V (C := R_Md) 2 hw k_661 k_37 k_658 k_660 k_21 rfl rfl (by decide +kernel) ⟨Nat.le_of_ble_eq_true rfl, Nat.le_of_ble_eq_true rfl⟩) ⟨fun a U g mk q => by obtain ⟨q0, q1, qP, qK, qD⟩ := q; exact ⟨q0, q1, qP, va_K.moved (u := U) (U := U.calling g mk a) (Vm.Alike.refl U.vm) qK, qD⟩, va_recv hKc hPc (ci := 7) (q0 := 0) rfl rfl, fun U hU hW => ⟨rfl, by rw [hU], by rw [hU]; exact hPc, va_K.moved hW.alike hKc, hDc.weaken (fun _ _ _ _ => trivial)⟩⟩ rfl rfl hl.1 rfl (lv_room (Nat.le_of_ble_eq_true rfl)) d_Md_clause_14 ⟨Nat.le_of_ble_eq_true rfl, Nat.le_of_ble_eq_true rfl⟩) hS (fun q _ h => hFc q h) hFc (fun r_1 u t H1 locs ht hvm hw9 hB hz1 hk1 hS => ?_)
  obtain ⟨hP1, hK1, hD1⟩ := hB
  rw [ht] at hP1
  have hK1 := va_K.moved hvm.symm hK1
  obtain ⟨hP, hD⟩ := va_join (wr := []) (w1 := [(m0, .inr (7, [.ref j0, .ref j1, .ref j2, .ref j3, .ref j4, .int ev, .int ec, .int eg, .int ea, .int es, .int 1, .ref j5, .int el, .ref j6, .ref j7]))]) hP hD [0] [] rfl rfl (by decide) (by decide) hk1 hFc hP1 hD1
  generalize H1 = H at hP hS ⊢
  have hP : va_P (dC, dI) vwCl [(m0, .inr (7, [.ref j0, .ref j1, .ref j2, .ref j3, .ref j4, .int ev, .int ec, .int eg, .int ea, .int es, .int 1, .ref j5, .int el, .ref j6, .ref j7]))] H := hP
  have hD : va_D A [(m0, .inr (7, [.ref j0, .ref j1, .ref j2, .ref j3, .ref j4, .int ev, .int ec, .int eg, .int ea, .int es, .int 1, .ref j5, .int el, .ref j6, .ref j7]))] := hD
  refine W.widen (k := 0) (n := 0) (by decide) (by decide) ?_
  have hw9 : r_1 = 0 := hw9
  subst hw9
  refine lv_if_eq (tgt := 43) hx hb d_Md_clause_17 (by decide) (fun c_17 => ?_) (fun c_17 => absurd c_17 (by decide))
  refine lv_iconst (v := 0) hx hb d_Md_clause_43 (by decide) ?_
  refine W.widen (k := 0) (n := 0) (by decide) (by decide) ?_
  exact W.iret (v := 0) hx hb hr (fun t ht hW => ⟨⟨0, (), rfl, rfl, by rw [ht]; exact hP, va_K.moved hW.alike hK, hD⟩, hS.F ht⟩) hS.2.2 d_Md_clause_44

set_option maxHeartbeats 4000000 in
set_option maxRecDepth 100000 in
/-- value(v) refuses v -/
theorem c_Md_value_1 (l : Launch) (dC : Nat → ClassId) (dI : Nat → Nat → Nat) (m0 : Nat) (j0 : Nat) (j1 : Nat) (j2 : Nat) (j3 : Nat) (j4 : Nat) (j5 : Nat) (j6 : Nat) (j7 : Nat) (sz : Nat) (ev : Int32) (ec : Int32) (eg : Int32) (ea : Int32) (es : Int32) (eo : Int32) (el : Int32) (p0 : Int32) (h : p0 < 1 ∨ ev < p0) : Met l y_Md_value (wq y_Md_value prog_9_method_14_code 2 (some .boolean)) ({ frames := 1, cells := 0, slots := 0, locals := 22 }) (va_Pc [.ref m0, .int p0] (fun U => U.heap.size = sz ∧ va_P (dC, dI) vwCl [(m0, .inr (7, [.ref j0, .ref j1, .ref j2, .ref j3, .ref j4, .int ev, .int ec, .int eg, .int ea, .int es, .int eo, .ref j5, .int el, .ref j6, .ref j7]))] U.heap ∧ va_K (dC, dI) vwCl [] U ∧ va_D (fun _ => True) [(m0, .inr (7, [.ref j0, .ref j1, .ref j2, .ref j3, .ref j4, .int ev, .int ec, .int eg, .int ea, .int es, .int eo, .ref j5, .int el, .ref j6, .ref j7]))])) (va_Qi (fun (r : Int32) (_ : Unit) => r = 0) (fun (_ : Unit) t => va_P (dC, dI) vwCl [(m0, .inr (7, [.ref j0, .ref j1, .ref j2, .ref j3, .ref j4, .int ev, .int ec, .int eg, .int ea, .int es, .int 1, .ref j5, .int el, .ref j6, .ref j7]))] t.heap ∧ va_K (dC, dI) vwCl [] t ∧ va_D (va_A [(m0, .inr (7, [.ref j0, .ref j1, .ref j2, .ref j3, .ref j4, .int ev, .int ec, .int eg, .int ea, .int es, .int eo, .ref j5, .int el, .ref j6, .ref j7]))] sz) [(m0, .inr (7, [.ref j0, .ref j1, .ref j2, .ref j3, .ref j4, .int ev, .int ec, .int eg, .int ea, .int es, .int 1, .ref j5, .int el, .ref j6, .ref j7]))]) (va_A [(m0, .inr (7, [.ref j0, .ref j1, .ref j2, .ref j3, .ref j4, .int ev, .int ec, .int eg, .int ea, .int es, .int eo, .ref j5, .int el, .ref j6, .ref j7]))] sz)) 0 0 (va_A [(m0, .inr (7, [.ref j0, .ref j1, .ref j2, .ref j3, .ref j4, .int ev, .int ec, .int eg, .int ea, .int es, .int eo, .ref j5, .int el, .ref j6, .ref j7]))] sz) := by
  refine Met.ofW (cc := prog_9_method_14_code) (maxL := 2) (ret := (some .boolean)) (by decide) rfl ?_
  intro p e s m args below meth c s₁ B hml hv
  obtain ⟨rfl, hsz, hP, hK, hD0⟩ := hv
  have hx := B.exec
  have hb := B.bytes
  have hr := B.returns
  have hw : ∀ w ∈ bg_W, w.before #[Value.ref m0, Value.int p0] s = true := fun w h => atoms_spec (ws := (wq y_Md_value prog_9_method_14_code 2 (some .boolean))) B.pre w (List.mem_cons_of_mem _ h)
  have hown : s.vm.findClass R_Md = some m.cls := findClass_of_methodNamed B.named
  have hlocks := B.notSynchronized
  subst hsz
  have hD := hD0.self (sz := s.heap.size)
  generalize hAe : va_A [(m0, .inr (7, [.ref j0, .ref j1, .ref j2, .ref j3, .ref j4, .int ev, .int ec, .int eg, .int ea, .int es, .int eo, .ref j5, .int el, .ref j6, .ref j7]))] s.heap.size = A at hD ⊢
  have hA : ∀ q : Nat, s.heap.size ≤ q → A q := fun q h => by rw [← hAe]; exact Or.inr h
  have hS : va_S A s.heap s.heap [] := va_S.rf
  have hP : va_P (dC, dI) vwCl [(m0, .inr (7, [.ref j0, .ref j1, .ref j2, .ref j3, .ref j4, .int ev, .int ec, .int eg, .int ea, .int es, .int eo, .ref j5, .int el, .ref j6, .ref j7]))] s.heap := hP
  have hl := lv_entry ([.ref m0, .int p0]) (n := 2) (Nat.le_of_ble_eq_true rfl)
  rw [lg_entry_eq]
  generalize (lg_sl ([.ref m0, .int p0]) ++ List.replicate (2 - (lg_sl ([.ref m0, .int p0])).length) Slot.unset).toArray = ls at hl ⊢
  have hl : lv_has ls 2 [(0, .ref m0), (1, .int p0)] := hl
  obtain ⟨H, hH⟩ : ∃ H : Heap, H = s.heap := ⟨_, rfl⟩
  rw [← hH] at hP
  have hS : va_S A s.heap H [] := by rw [hH]; exact va_S.rf
  show W p l e _ s m _ below meth c s.heap [] 0 0 _ _
  rw [← hH]
  refine lv_aload_n hx hb d_Md_value_0 rfl (lv_at hl 0 rfl) ?_
  refine lv_iload_n hx hb d_Md_value_1 rfl (lv_at hl 1 rfl) ?_
  refine lv_iconst (v := 1) hx hb d_Md_value_2 (by decide) ?_
  refine lv_icmp_lt (tgt := 18) hx hb d_Md_value_3 (by decide) (fun c_3 => ?_) (fun c_3 => ?_)
  · refine lv_iconst (v := 0) hx hb d_Md_value_18 (by decide) ?_
    refine lv_iconst (v := 1) hx hb d_Md_value_19 (by decide) ?_
    have hPc := hP.sub (ws' := [(m0, .inr (7, [.ref j0, .ref j1, .ref j2, .ref j3, .ref j4, .int ev, .int ec, .int eg, .int ea, .int es, .int eo, .ref j5, .int el, .ref j6, .ref j7]))]) [0] rfl
    have hDc := hD.sub (ws' := [(m0, .inr (7, [.ref j0, .ref j1, .ref j2, .ref j3, .ref j4, .int ev, .int ec, .int eg, .int ea, .int es, .int eo, .ref j5, .int el, .ref j6, .ref j7]))]) [0] (by decide) rfl
    have hKc := hK.sub (tys' := []) [] rfl
    have hFc := va_free (wc := [(m0, .inr (7, [.ref j0, .ref j1, .ref j2, .ref j3, .ref j4, .int ev, .int ec, .int eg, .int ea, .int es, .int eo, .ref j5, .int el, .ref j6, .ref j7]))]) hD hS hA [0] rfl
    refine va_calli (va_runV (As := [.int 0, .int 1]) (rest := []) ⟨hx, hb, hml, hown, hw⟩ (c_Md_good_0 l dC dI m0 j0 j1 j2 j3 j4 j5 j6 j7 H.size ev ec eg ea es eo el 1) (cb_V (C := R_Md) 2 hw k_661 k_37 k_658 k_660 k_21 rfl rfl (by decide +kernel) ⟨Nat.le_of_ble_eq_true rfl, Nat.le_of_ble_eq_true rfl⟩) ⟨fun a U g mk q => by obtain ⟨q0, q1, qP, qK, qD⟩ := q; exact ⟨q0, q1, qP, va_K.moved (u := U) (U := U.calling g mk a) (Vm.Alike.refl U.vm) qK, qD⟩, va_recv hKc hPc (ci := 7) (q0 := 0) rfl rfl, fun U hU hW => ⟨rfl, by rw [hU], by rw [hU]; exact hPc, va_K.moved hW.alike hKc, hDc.weaken (fun _ _ _ _ => trivial)⟩⟩ rfl rfl hl.1 rfl (lv_room (Nat.le_of_ble_eq_true rfl)) d_Md_value_20 ⟨Nat.le_of_ble_eq_true rfl, Nat.le_of_ble_eq_true rfl⟩) hS (fun q _ h => hFc q h) hFc (fun r_1 u t H1 locs ht hvm hw9 hB hz1 hk1 hS => ?_)
    obtain ⟨hP1, hK1, hD1⟩ := hB
    rw [ht] at hP1
    have hK1 := va_K.moved hvm.symm hK1
    obtain ⟨hP, hD⟩ := va_join (wr := []) (w1 := [(m0, .inr (7, [.ref j0, .ref j1, .ref j2, .ref j3, .ref j4, .int ev, .int ec, .int eg, .int ea, .int es, .int 1, .ref j5, .int el, .ref j6, .ref j7]))]) hP hD [0] [] rfl rfl (by decide) (by decide) hk1 hFc hP1 hD1
    generalize H1 = H at hP hS ⊢
    have hP : va_P (dC, dI) vwCl [(m0, .inr (7, [.ref j0, .ref j1, .ref j2, .ref j3, .ref j4, .int ev, .int ec, .int eg, .int ea, .int es, .int 1, .ref j5, .int el, .ref j6, .ref j7]))] H := hP
    have hD : va_D A [(m0, .inr (7, [.ref j0, .ref j1, .ref j2, .ref j3, .ref j4, .int ev, .int ec, .int eg, .int ea, .int es, .int 1, .ref j5, .int el, .ref j6, .ref j7]))] := hD
    refine W.widen (k := 0) (n := 0) (by decide) (by decide) ?_
    have hw9 : r_1 = 0 := hw9
    subst hw9
    refine lv_if_eq (tgt := 38) hx hb d_Md_value_23 (by decide) (fun c_23 => ?_) (fun c_23 => absurd c_23 (by decide))
    refine lv_iconst (v := 0) hx hb d_Md_value_38 (by decide) ?_
    refine W.widen (k := 0) (n := 0) (by decide) (by decide) ?_
    exact W.zret (v := 0) hx hb hr rfl (fun t ht hW => ⟨⟨0, (), rfl, rfl, by rw [ht]; exact hP, va_K.moved hW.alike hK, hD⟩, hS.F ht⟩) hS.2.2 d_Md_value_39
  · refine lv_iload_n hx hb d_Md_value_6 rfl (lv_at hl 1 rfl) ?_
    refine lv_aload_n hx hb d_Md_value_7 rfl (lv_at hl 0 rfl) ?_
    refine va_get (D := (dC, dI)) (ci := 7) (v := .int ev) (C := R_Md) (T := F_Md) (N := 15) hx hb hw in_Md hown hK hP 0 rfl rfl 5 (by decide) (hw (Cond.fieldLink "ClauseSearchModel" 43 "ClauseSearchModel" "variables" "I") k_609) (fun _ h9 => h9) rfl d_Md_value_8 ?_
    refine lv_icmp_gt (tgt := 18) hx hb d_Md_value_11 (by decide) (fun c_11 => ?_) (fun c_11 => absurd c_11 (by rcases h with h | h; exact absurd h c_3; exact fun q => q h))
    refine lv_iconst (v := 0) hx hb d_Md_value_18 (by decide) ?_
    refine lv_iconst (v := 1) hx hb d_Md_value_19 (by decide) ?_
    have hPc := hP.sub (ws' := [(m0, .inr (7, [.ref j0, .ref j1, .ref j2, .ref j3, .ref j4, .int ev, .int ec, .int eg, .int ea, .int es, .int eo, .ref j5, .int el, .ref j6, .ref j7]))]) [0] rfl
    have hDc := hD.sub (ws' := [(m0, .inr (7, [.ref j0, .ref j1, .ref j2, .ref j3, .ref j4, .int ev, .int ec, .int eg, .int ea, .int es, .int eo, .ref j5, .int el, .ref j6, .ref j7]))]) [0] (by decide) rfl
    have hKc := hK.sub (tys' := []) [] rfl
    have hFc := va_free (wc := [(m0, .inr (7, [.ref j0, .ref j1, .ref j2, .ref j3, .ref j4, .int ev, .int ec, .int eg, .int ea, .int es, .int eo, .ref j5, .int el, .ref j6, .ref j7]))]) hD hS hA [0] rfl
    refine va_calli (va_runV (As := [.int 0, .int 1]) (rest := []) ⟨hx, hb, hml, hown, hw⟩ (c_Md_good_0 l dC dI m0 j0 j1 j2 j3 j4 j5 j6 j7 H.size ev ec eg ea es eo el 1) (cb_V (C := R_Md) 2 hw k_661 k_37 k_658 k_660 k_21 rfl rfl (by decide +kernel) ⟨Nat.le_of_ble_eq_true rfl, Nat.le_of_ble_eq_true rfl⟩) ⟨fun a U g mk q => by obtain ⟨q0, q1, qP, qK, qD⟩ := q; exact ⟨q0, q1, qP, va_K.moved (u := U) (U := U.calling g mk a) (Vm.Alike.refl U.vm) qK, qD⟩, va_recv hKc hPc (ci := 7) (q0 := 0) rfl rfl, fun U hU hW => ⟨rfl, by rw [hU], by rw [hU]; exact hPc, va_K.moved hW.alike hKc, hDc.weaken (fun _ _ _ _ => trivial)⟩⟩ rfl rfl hl.1 rfl (lv_room (Nat.le_of_ble_eq_true rfl)) d_Md_value_20 ⟨Nat.le_of_ble_eq_true rfl, Nat.le_of_ble_eq_true rfl⟩) hS (fun q _ h => hFc q h) hFc (fun r_2 u t H1 locs ht hvm hw9 hB hz1 hk1 hS => ?_)
    obtain ⟨hP1, hK1, hD1⟩ := hB
    rw [ht] at hP1
    have hK1 := va_K.moved hvm.symm hK1
    obtain ⟨hP, hD⟩ := va_join (wr := []) (w1 := [(m0, .inr (7, [.ref j0, .ref j1, .ref j2, .ref j3, .ref j4, .int ev, .int ec, .int eg, .int ea, .int es, .int 1, .ref j5, .int el, .ref j6, .ref j7]))]) hP hD [0] [] rfl rfl (by decide) (by decide) hk1 hFc hP1 hD1
    generalize H1 = H at hP hS ⊢
    have hP : va_P (dC, dI) vwCl [(m0, .inr (7, [.ref j0, .ref j1, .ref j2, .ref j3, .ref j4, .int ev, .int ec, .int eg, .int ea, .int es, .int 1, .ref j5, .int el, .ref j6, .ref j7]))] H := hP
    have hD : va_D A [(m0, .inr (7, [.ref j0, .ref j1, .ref j2, .ref j3, .ref j4, .int ev, .int ec, .int eg, .int ea, .int es, .int 1, .ref j5, .int el, .ref j6, .ref j7]))] := hD
    refine W.widen (k := 0) (n := 0) (by decide) (by decide) ?_
    have hw9 : r_2 = 0 := hw9
    subst hw9
    refine lv_if_eq (tgt := 38) hx hb d_Md_value_23 (by decide) (fun c_23 => ?_) (fun c_23 => absurd c_23 (by decide))
    refine lv_iconst (v := 0) hx hb d_Md_value_38 (by decide) ?_
    refine W.widen (k := 0) (n := 0) (by decide) (by decide) ?_
    exact W.zret (v := 0) hx hb hr rfl (fun t ht hW => ⟨⟨0, (), rfl, rfl, by rw [ht]; exact hP, va_K.moved hW.alike hK, hD⟩, hS.F ht⟩) hS.2.2 d_Md_value_39

set_option maxHeartbeats 4000000 in
set_option maxRecDepth 100000 in
/-- count(what) refuses what -/
theorem c_Md_count_1 (l : Launch) (dC : Nat → ClassId) (dI : Nat → Nat → Nat) (m0 : Nat) (j0 : Nat) (j1 : Nat) (j2 : Nat) (j3 : Nat) (j4 : Nat) (j5 : Nat) (j6 : Nat) (j7 : Nat) (sz : Nat) (ev : Int32) (ec : Int32) (eg : Int32) (ea : Int32) (es : Int32) (eo : Int32) (el : Int32) (p0 : Int32) (h : p0 < 0 ∨ 5 < p0) : Met l y_Md_count (wq y_Md_count prog_9_method_15_code 2 (some .int)) ({ frames := 1, cells := 0, slots := 0, locals := 22 }) (va_Pc [.ref m0, .int p0] (fun U => U.heap.size = sz ∧ va_P (dC, dI) vwCl [(m0, .inr (7, [.ref j0, .ref j1, .ref j2, .ref j3, .ref j4, .int ev, .int ec, .int eg, .int ea, .int es, .int eo, .ref j5, .int el, .ref j6, .ref j7]))] U.heap ∧ va_K (dC, dI) vwCl [] U ∧ va_D (fun _ => True) [(m0, .inr (7, [.ref j0, .ref j1, .ref j2, .ref j3, .ref j4, .int ev, .int ec, .int eg, .int ea, .int es, .int eo, .ref j5, .int el, .ref j6, .ref j7]))])) (va_Qi (fun (r : Int32) (_ : Unit) => r = 0) (fun (_ : Unit) t => va_P (dC, dI) vwCl [(m0, .inr (7, [.ref j0, .ref j1, .ref j2, .ref j3, .ref j4, .int ev, .int ec, .int eg, .int ea, .int es, .int 1, .ref j5, .int el, .ref j6, .ref j7]))] t.heap ∧ va_K (dC, dI) vwCl [] t ∧ va_D (va_A [(m0, .inr (7, [.ref j0, .ref j1, .ref j2, .ref j3, .ref j4, .int ev, .int ec, .int eg, .int ea, .int es, .int eo, .ref j5, .int el, .ref j6, .ref j7]))] sz) [(m0, .inr (7, [.ref j0, .ref j1, .ref j2, .ref j3, .ref j4, .int ev, .int ec, .int eg, .int ea, .int es, .int 1, .ref j5, .int el, .ref j6, .ref j7]))]) (va_A [(m0, .inr (7, [.ref j0, .ref j1, .ref j2, .ref j3, .ref j4, .int ev, .int ec, .int eg, .int ea, .int es, .int eo, .ref j5, .int el, .ref j6, .ref j7]))] sz)) 0 0 (va_A [(m0, .inr (7, [.ref j0, .ref j1, .ref j2, .ref j3, .ref j4, .int ev, .int ec, .int eg, .int ea, .int es, .int eo, .ref j5, .int el, .ref j6, .ref j7]))] sz) := by
  refine Met.ofW (cc := prog_9_method_15_code) (maxL := 2) (ret := (some .int)) (by decide) rfl ?_
  intro p e s m args below meth c s₁ B hml hv
  obtain ⟨rfl, hsz, hP, hK, hD0⟩ := hv
  have hx := B.exec
  have hb := B.bytes
  have hr := B.returns
  have hw : ∀ w ∈ bg_W, w.before #[Value.ref m0, Value.int p0] s = true := fun w h => atoms_spec (ws := (wq y_Md_count prog_9_method_15_code 2 (some .int))) B.pre w (List.mem_cons_of_mem _ h)
  have hown : s.vm.findClass R_Md = some m.cls := findClass_of_methodNamed B.named
  have hlocks := B.notSynchronized
  subst hsz
  have hD := hD0.self (sz := s.heap.size)
  generalize hAe : va_A [(m0, .inr (7, [.ref j0, .ref j1, .ref j2, .ref j3, .ref j4, .int ev, .int ec, .int eg, .int ea, .int es, .int eo, .ref j5, .int el, .ref j6, .ref j7]))] s.heap.size = A at hD ⊢
  have hA : ∀ q : Nat, s.heap.size ≤ q → A q := fun q h => by rw [← hAe]; exact Or.inr h
  have hS : va_S A s.heap s.heap [] := va_S.rf
  have hP : va_P (dC, dI) vwCl [(m0, .inr (7, [.ref j0, .ref j1, .ref j2, .ref j3, .ref j4, .int ev, .int ec, .int eg, .int ea, .int es, .int eo, .ref j5, .int el, .ref j6, .ref j7]))] s.heap := hP
  have hl := lv_entry ([.ref m0, .int p0]) (n := 2) (Nat.le_of_ble_eq_true rfl)
  rw [lg_entry_eq]
  generalize (lg_sl ([.ref m0, .int p0]) ++ List.replicate (2 - (lg_sl ([.ref m0, .int p0])).length) Slot.unset).toArray = ls at hl ⊢
  have hl : lv_has ls 2 [(0, .ref m0), (1, .int p0)] := hl
  obtain ⟨H, hH⟩ : ∃ H : Heap, H = s.heap := ⟨_, rfl⟩
  rw [← hH] at hP
  have hS : va_S A s.heap H [] := by rw [hH]; exact va_S.rf
  show W p l e _ s m _ below meth c s.heap [] 0 0 _ _
  rw [← hH]
  refine lv_aload_n hx hb d_Md_count_0 rfl (lv_at hl 0 rfl) ?_
  refine lv_iload_n hx hb d_Md_count_1 rfl (lv_at hl 1 rfl) ?_
  refine lv_if_lt (tgt := 14) hx hb d_Md_count_2 (by decide) (fun c_2 => ?_) (fun c_2 => ?_)
  · refine lv_iconst (v := 0) hx hb d_Md_count_14 (by decide) ?_
    refine lv_iconst (v := 1) hx hb d_Md_count_15 (by decide) ?_
    have hPc := hP.sub (ws' := [(m0, .inr (7, [.ref j0, .ref j1, .ref j2, .ref j3, .ref j4, .int ev, .int ec, .int eg, .int ea, .int es, .int eo, .ref j5, .int el, .ref j6, .ref j7]))]) [0] rfl
    have hDc := hD.sub (ws' := [(m0, .inr (7, [.ref j0, .ref j1, .ref j2, .ref j3, .ref j4, .int ev, .int ec, .int eg, .int ea, .int es, .int eo, .ref j5, .int el, .ref j6, .ref j7]))]) [0] (by decide) rfl
    have hKc := hK.sub (tys' := []) [] rfl
    have hFc := va_free (wc := [(m0, .inr (7, [.ref j0, .ref j1, .ref j2, .ref j3, .ref j4, .int ev, .int ec, .int eg, .int ea, .int es, .int eo, .ref j5, .int el, .ref j6, .ref j7]))]) hD hS hA [0] rfl
    refine va_calli (va_runV (As := [.int 0, .int 1]) (rest := []) ⟨hx, hb, hml, hown, hw⟩ (c_Md_good_0 l dC dI m0 j0 j1 j2 j3 j4 j5 j6 j7 H.size ev ec eg ea es eo el 1) (cb_V (C := R_Md) 2 hw k_661 k_37 k_658 k_660 k_21 rfl rfl (by decide +kernel) ⟨Nat.le_of_ble_eq_true rfl, Nat.le_of_ble_eq_true rfl⟩) ⟨fun a U g mk q => by obtain ⟨q0, q1, qP, qK, qD⟩ := q; exact ⟨q0, q1, qP, va_K.moved (u := U) (U := U.calling g mk a) (Vm.Alike.refl U.vm) qK, qD⟩, va_recv hKc hPc (ci := 7) (q0 := 0) rfl rfl, fun U hU hW => ⟨rfl, by rw [hU], by rw [hU]; exact hPc, va_K.moved hW.alike hKc, hDc.weaken (fun _ _ _ _ => trivial)⟩⟩ rfl rfl hl.1 rfl (lv_room (Nat.le_of_ble_eq_true rfl)) d_Md_count_16 ⟨Nat.le_of_ble_eq_true rfl, Nat.le_of_ble_eq_true rfl⟩) hS (fun q _ h => hFc q h) hFc (fun r_1 u t H1 locs ht hvm hw9 hB hz1 hk1 hS => ?_)
    obtain ⟨hP1, hK1, hD1⟩ := hB
    rw [ht] at hP1
    have hK1 := va_K.moved hvm.symm hK1
    obtain ⟨hP, hD⟩ := va_join (wr := []) (w1 := [(m0, .inr (7, [.ref j0, .ref j1, .ref j2, .ref j3, .ref j4, .int ev, .int ec, .int eg, .int ea, .int es, .int 1, .ref j5, .int el, .ref j6, .ref j7]))]) hP hD [0] [] rfl rfl (by decide) (by decide) hk1 hFc hP1 hD1
    generalize H1 = H at hP hS ⊢
    have hP : va_P (dC, dI) vwCl [(m0, .inr (7, [.ref j0, .ref j1, .ref j2, .ref j3, .ref j4, .int ev, .int ec, .int eg, .int ea, .int es, .int 1, .ref j5, .int el, .ref j6, .ref j7]))] H := hP
    have hD : va_D A [(m0, .inr (7, [.ref j0, .ref j1, .ref j2, .ref j3, .ref j4, .int ev, .int ec, .int eg, .int ea, .int es, .int 1, .ref j5, .int el, .ref j6, .ref j7]))] := hD
    refine W.widen (k := 0) (n := 0) (by decide) (by decide) ?_
    have hw9 : r_1 = 0 := hw9
    subst hw9
    refine lv_if_ne (tgt := 24) hx hb d_Md_count_19 (by decide) (fun c_19 => absurd c_19 (by decide)) (fun c_19 => ?_)
    refine lv_iconst (v := 0) hx hb d_Md_count_22 (by decide) ?_
    refine W.widen (k := 0) (n := 0) (by decide) (by decide) ?_
    exact W.iret (v := 0) hx hb hr (fun t ht hW => ⟨⟨0, (), rfl, rfl, by rw [ht]; exact hP, va_K.moved hW.alike hK, hD⟩, hS.F ht⟩) hS.2.2 d_Md_count_23
  · refine lv_iload_n hx hb d_Md_count_5 rfl (lv_at hl 1 rfl) ?_
    refine lv_iconst (v := 5) hx hb d_Md_count_6 (by decide) ?_
    refine lv_icmp_gt (tgt := 14) hx hb d_Md_count_7 (by decide) (fun c_7 => ?_) (fun c_7 => absurd c_7 (by rcases h with h | h; exact absurd h c_2; exact fun q => q h))
    refine lv_iconst (v := 0) hx hb d_Md_count_14 (by decide) ?_
    refine lv_iconst (v := 1) hx hb d_Md_count_15 (by decide) ?_
    have hPc := hP.sub (ws' := [(m0, .inr (7, [.ref j0, .ref j1, .ref j2, .ref j3, .ref j4, .int ev, .int ec, .int eg, .int ea, .int es, .int eo, .ref j5, .int el, .ref j6, .ref j7]))]) [0] rfl
    have hDc := hD.sub (ws' := [(m0, .inr (7, [.ref j0, .ref j1, .ref j2, .ref j3, .ref j4, .int ev, .int ec, .int eg, .int ea, .int es, .int eo, .ref j5, .int el, .ref j6, .ref j7]))]) [0] (by decide) rfl
    have hKc := hK.sub (tys' := []) [] rfl
    have hFc := va_free (wc := [(m0, .inr (7, [.ref j0, .ref j1, .ref j2, .ref j3, .ref j4, .int ev, .int ec, .int eg, .int ea, .int es, .int eo, .ref j5, .int el, .ref j6, .ref j7]))]) hD hS hA [0] rfl
    refine va_calli (va_runV (As := [.int 0, .int 1]) (rest := []) ⟨hx, hb, hml, hown, hw⟩ (c_Md_good_0 l dC dI m0 j0 j1 j2 j3 j4 j5 j6 j7 H.size ev ec eg ea es eo el 1) (cb_V (C := R_Md) 2 hw k_661 k_37 k_658 k_660 k_21 rfl rfl (by decide +kernel) ⟨Nat.le_of_ble_eq_true rfl, Nat.le_of_ble_eq_true rfl⟩) ⟨fun a U g mk q => by obtain ⟨q0, q1, qP, qK, qD⟩ := q; exact ⟨q0, q1, qP, va_K.moved (u := U) (U := U.calling g mk a) (Vm.Alike.refl U.vm) qK, qD⟩, va_recv hKc hPc (ci := 7) (q0 := 0) rfl rfl, fun U hU hW => ⟨rfl, by rw [hU], by rw [hU]; exact hPc, va_K.moved hW.alike hKc, hDc.weaken (fun _ _ _ _ => trivial)⟩⟩ rfl rfl hl.1 rfl (lv_room (Nat.le_of_ble_eq_true rfl)) d_Md_count_16 ⟨Nat.le_of_ble_eq_true rfl, Nat.le_of_ble_eq_true rfl⟩) hS (fun q _ h => hFc q h) hFc (fun r_2 u t H1 locs ht hvm hw9 hB hz1 hk1 hS => ?_)
    obtain ⟨hP1, hK1, hD1⟩ := hB
    rw [ht] at hP1
    have hK1 := va_K.moved hvm.symm hK1
    obtain ⟨hP, hD⟩ := va_join (wr := []) (w1 := [(m0, .inr (7, [.ref j0, .ref j1, .ref j2, .ref j3, .ref j4, .int ev, .int ec, .int eg, .int ea, .int es, .int 1, .ref j5, .int el, .ref j6, .ref j7]))]) hP hD [0] [] rfl rfl (by decide) (by decide) hk1 hFc hP1 hD1
    generalize H1 = H at hP hS ⊢
    have hP : va_P (dC, dI) vwCl [(m0, .inr (7, [.ref j0, .ref j1, .ref j2, .ref j3, .ref j4, .int ev, .int ec, .int eg, .int ea, .int es, .int 1, .ref j5, .int el, .ref j6, .ref j7]))] H := hP
    have hD : va_D A [(m0, .inr (7, [.ref j0, .ref j1, .ref j2, .ref j3, .ref j4, .int ev, .int ec, .int eg, .int ea, .int es, .int 1, .ref j5, .int el, .ref j6, .ref j7]))] := hD
    refine W.widen (k := 0) (n := 0) (by decide) (by decide) ?_
    have hw9 : r_2 = 0 := hw9
    subst hw9
    refine lv_if_ne (tgt := 24) hx hb d_Md_count_19 (by decide) (fun c_19 => absurd c_19 (by decide)) (fun c_19 => ?_)
    refine lv_iconst (v := 0) hx hb d_Md_count_22 (by decide) ?_
    refine W.widen (k := 0) (n := 0) (by decide) (by decide) ?_
    exact W.iret (v := 0) hx hb hr (fun t ht hW => ⟨⟨0, (), rfl, rfl, by rw [ht]; exact hP, va_K.moved hW.alike hK, hD⟩, hS.F ht⟩) hS.2.2 d_Md_count_23

set_option maxHeartbeats 4000000 in
set_option maxRecDepth 100000 in
/-- count(what) of a new object -/
theorem c_Md_count_0 (l : Launch) (dC : Nat → ClassId) (dI : Nat → Nat → Nat) (m0 : Nat) (j0 : Nat) (j1 : Nat) (j2 : Nat) (j3 : Nat) (j4 : Nat) (j5 : Nat) (j6 : Nat) (j7 : Nat) (sz : Nat) (ea : Int32) (eo : Int32) (el : Int32) (p0 : Int32) (h1 : ¬ p0 < 0) (h2 : ¬ 5 < p0) : Met l y_Md_count (wq y_Md_count prog_9_method_15_code 2 (some .int)) ({ frames := 1, cells := 0, slots := 0, locals := 22 }) (va_Pc [.ref m0, .int p0] (fun U => U.heap.size = sz ∧ va_P (dC, dI) vwCl [(m0, .inr (7, [.ref j0, .ref j1, .ref j2, .ref j3, .ref j4, .int 0, .int 0, .int 0, .int ea, .int 0, .int eo, .ref j5, .int el, .ref j6, .ref j7]))] U.heap ∧ va_K (dC, dI) vwCl [] U ∧ va_D (fun _ => True) [(m0, .inr (7, [.ref j0, .ref j1, .ref j2, .ref j3, .ref j4, .int 0, .int 0, .int 0, .int ea, .int 0, .int eo, .ref j5, .int el, .ref j6, .ref j7]))])) (va_Qi (fun (r : Int32) (_ : Unit) => r = 0) (fun (_ : Unit) t => va_P (dC, dI) vwCl [(m0, .inr (7, [.ref j0, .ref j1, .ref j2, .ref j3, .ref j4, .int 0, .int 0, .int 0, .int ea, .int 0, .int 0, .ref j5, .int el, .ref j6, .ref j7]))] t.heap ∧ va_K (dC, dI) vwCl [] t ∧ va_D (va_A [(m0, .inr (7, [.ref j0, .ref j1, .ref j2, .ref j3, .ref j4, .int 0, .int 0, .int 0, .int ea, .int 0, .int eo, .ref j5, .int el, .ref j6, .ref j7]))] sz) [(m0, .inr (7, [.ref j0, .ref j1, .ref j2, .ref j3, .ref j4, .int 0, .int 0, .int 0, .int ea, .int 0, .int 0, .ref j5, .int el, .ref j6, .ref j7]))]) (va_A [(m0, .inr (7, [.ref j0, .ref j1, .ref j2, .ref j3, .ref j4, .int 0, .int 0, .int 0, .int ea, .int 0, .int eo, .ref j5, .int el, .ref j6, .ref j7]))] sz)) 0 0 (va_A [(m0, .inr (7, [.ref j0, .ref j1, .ref j2, .ref j3, .ref j4, .int 0, .int 0, .int 0, .int ea, .int 0, .int eo, .ref j5, .int el, .ref j6, .ref j7]))] sz) := by
  refine Met.ofW (cc := prog_9_method_15_code) (maxL := 2) (ret := (some .int)) (by decide) rfl ?_
  intro p e s m args below meth c s₁ B hml hv
  obtain ⟨rfl, hsz, hP, hK, hD0⟩ := hv
  have hx := B.exec
  have hb := B.bytes
  have hr := B.returns
  have hw : ∀ w ∈ bg_W, w.before #[Value.ref m0, Value.int p0] s = true := fun w h => atoms_spec (ws := (wq y_Md_count prog_9_method_15_code 2 (some .int))) B.pre w (List.mem_cons_of_mem _ h)
  have hown : s.vm.findClass R_Md = some m.cls := findClass_of_methodNamed B.named
  have hlocks := B.notSynchronized
  subst hsz
  have hD := hD0.self (sz := s.heap.size)
  generalize hAe : va_A [(m0, .inr (7, [.ref j0, .ref j1, .ref j2, .ref j3, .ref j4, .int 0, .int 0, .int 0, .int ea, .int 0, .int eo, .ref j5, .int el, .ref j6, .ref j7]))] s.heap.size = A at hD ⊢
  have hA : ∀ q : Nat, s.heap.size ≤ q → A q := fun q h => by rw [← hAe]; exact Or.inr h
  have hS : va_S A s.heap s.heap [] := va_S.rf
  have hP : va_P (dC, dI) vwCl [(m0, .inr (7, [.ref j0, .ref j1, .ref j2, .ref j3, .ref j4, .int 0, .int 0, .int 0, .int ea, .int 0, .int eo, .ref j5, .int el, .ref j6, .ref j7]))] s.heap := hP
  have hl := lv_entry ([.ref m0, .int p0]) (n := 2) (Nat.le_of_ble_eq_true rfl)
  rw [lg_entry_eq]
  generalize (lg_sl ([.ref m0, .int p0]) ++ List.replicate (2 - (lg_sl ([.ref m0, .int p0])).length) Slot.unset).toArray = ls at hl ⊢
  have hl : lv_has ls 2 [(0, .ref m0), (1, .int p0)] := hl
  obtain ⟨H, hH⟩ : ∃ H : Heap, H = s.heap := ⟨_, rfl⟩
  rw [← hH] at hP
  have hS : va_S A s.heap H [] := by rw [hH]; exact va_S.rf
  show W p l e _ s m _ below meth c s.heap [] 0 0 _ _
  rw [← hH]
  refine lv_aload_n hx hb d_Md_count_0 rfl (lv_at hl 0 rfl) ?_
  refine lv_iload_n hx hb d_Md_count_1 rfl (lv_at hl 1 rfl) ?_
  refine lv_if_lt (tgt := 14) hx hb d_Md_count_2 (by decide) (fun c_2 => absurd c_2 (h1)) (fun c_2 => ?_)
  refine lv_iload_n hx hb d_Md_count_5 rfl (lv_at hl 1 rfl) ?_
  refine lv_iconst (v := 5) hx hb d_Md_count_6 (by decide) ?_
  refine lv_icmp_gt (tgt := 14) hx hb d_Md_count_7 (by decide) (fun c_7 => absurd c_7 (h2)) (fun c_7 => ?_)
  refine lv_iconst (v := 1) hx hb d_Md_count_10 (by decide) ?_
  refine lv_goto (tgt := 15) hx hb d_Md_count_11 (by decide) ?_
  refine lv_iconst (v := 1) hx hb d_Md_count_15 (by decide) ?_
  have hPc := hP.sub (ws' := [(m0, .inr (7, [.ref j0, .ref j1, .ref j2, .ref j3, .ref j4, .int 0, .int 0, .int 0, .int ea, .int 0, .int eo, .ref j5, .int el, .ref j6, .ref j7]))]) [0] rfl
  have hDc := hD.sub (ws' := [(m0, .inr (7, [.ref j0, .ref j1, .ref j2, .ref j3, .ref j4, .int 0, .int 0, .int 0, .int ea, .int 0, .int eo, .ref j5, .int el, .ref j6, .ref j7]))]) [0] (by decide) rfl
  have hKc := hK.sub (tys' := []) [] rfl
  have hFc := va_free (wc := [(m0, .inr (7, [.ref j0, .ref j1, .ref j2, .ref j3, .ref j4, .int 0, .int 0, .int 0, .int ea, .int 0, .int eo, .ref j5, .int el, .ref j6, .ref j7]))]) hD hS hA [0] rfl
  refine va_calli (va_runV (As := [.int 1, .int 1]) (rest := []) ⟨hx, hb, hml, hown, hw⟩ (c_Md_good_1 l dC dI m0 j0 j1 j2 j3 j4 j5 j6 j7 H.size 0 0 0 ea 0 eo el 1) (cb_V (C := R_Md) 2 hw k_661 k_37 k_658 k_660 k_21 rfl rfl (by decide +kernel) ⟨Nat.le_of_ble_eq_true rfl, Nat.le_of_ble_eq_true rfl⟩) ⟨fun a U g mk q => by obtain ⟨q0, q1, qP, qK, qD⟩ := q; exact ⟨q0, q1, qP, va_K.moved (u := U) (U := U.calling g mk a) (Vm.Alike.refl U.vm) qK, qD⟩, va_recv hKc hPc (ci := 7) (q0 := 0) rfl rfl, fun U hU hW => ⟨rfl, by rw [hU], by rw [hU]; exact hPc, va_K.moved hW.alike hKc, hDc.weaken (fun _ _ _ _ => trivial)⟩⟩ rfl rfl hl.1 rfl (lv_room (Nat.le_of_ble_eq_true rfl)) d_Md_count_16 ⟨Nat.le_of_ble_eq_true rfl, Nat.le_of_ble_eq_true rfl⟩) hS (fun q _ h => hFc q h) hFc (fun r_1 u t H1 locs ht hvm hw9 hB hz1 hk1 hS => ?_)
  obtain ⟨hP1, hK1, hD1⟩ := hB
  rw [ht] at hP1
  have hK1 := va_K.moved hvm.symm hK1
  obtain ⟨hP, hD⟩ := va_join (wr := []) (w1 := [(m0, .inr (7, [.ref j0, .ref j1, .ref j2, .ref j3, .ref j4, .int 0, .int 0, .int 0, .int ea, .int 0, .int 0, .ref j5, .int el, .ref j6, .ref j7]))]) hP hD [0] [] rfl rfl (by decide) (by decide) hk1 hFc hP1 hD1
  generalize H1 = H at hP hS ⊢
  have hP : va_P (dC, dI) vwCl [(m0, .inr (7, [.ref j0, .ref j1, .ref j2, .ref j3, .ref j4, .int 0, .int 0, .int 0, .int ea, .int 0, .int 0, .ref j5, .int el, .ref j6, .ref j7]))] H := hP
  have hD : va_D A [(m0, .inr (7, [.ref j0, .ref j1, .ref j2, .ref j3, .ref j4, .int 0, .int 0, .int 0, .int ea, .int 0, .int 0, .ref j5, .int el, .ref j6, .ref j7]))] := hD
  refine W.widen (k := 0) (n := 0) (by decide) (by decide) ?_
  have hw9 : r_1 = 1 := hw9
  subst hw9
  refine lv_if_ne (tgt := 24) hx hb d_Md_count_19 (by decide) (fun c_19 => ?_) (fun c_19 => absurd c_19 (by decide))
  refine lv_iload_n hx hb d_Md_count_24 rfl (lv_at hl 1 rfl) ?_
  refine lv_if_ne (tgt := 35) hx hb d_Md_count_25 (by decide) (fun c_25 => ?_) (fun c_25 => ?_)
  · refine lv_iload_n hx hb d_Md_count_35 rfl (lv_at hl 1 rfl) ?_
    refine lv_iconst (v := 1) hx hb d_Md_count_36 (by decide) ?_
    refine lv_icmp_ne (tgt := 47) hx hb d_Md_count_37 (by decide) (fun c_37 => ?_) (fun c_37 => ?_)
    · refine lv_iload_n hx hb d_Md_count_47 rfl (lv_at hl 1 rfl) ?_
      refine lv_iconst (v := 2) hx hb d_Md_count_48 (by decide) ?_
      refine lv_icmp_ne (tgt := 59) hx hb d_Md_count_49 (by decide) (fun c_49 => ?_) (fun c_49 => ?_)
      · refine lv_iload_n hx hb d_Md_count_59 rfl (lv_at hl 1 rfl) ?_
        refine lv_iconst (v := 3) hx hb d_Md_count_60 (by decide) ?_
        refine lv_icmp_ne (tgt := 75) hx hb d_Md_count_61 (by decide) (fun c_61 => ?_) (fun c_61 => ?_)
        · refine lv_iconst (v := 0) hx hb d_Md_count_75 (by decide) ?_
          refine W.widen (k := 0) (n := 0) (by decide) (by decide) ?_
          exact W.iret (v := 0) hx hb hr (fun t ht hW => ⟨⟨0, (), rfl, rfl, by rw [ht]; exact hP, va_K.moved hW.alike hK, hD⟩, hS.F ht⟩) hS.2.2 d_Md_count_76
        · refine lv_aload_n hx hb d_Md_count_64 rfl (lv_at hl 0 rfl) ?_
          refine va_get (D := (dC, dI)) (ci := 7) (v := .int 0) (C := R_Md) (T := F_Md) (N := 15) hx hb hw in_Md hown hK hP 0 rfl rfl 9 (by decide) (hw (Cond.fieldLink "ClauseSearchModel" 46 "ClauseSearchModel" "stands" "Z") k_613) (fun _ h9 => h9) rfl d_Md_count_65 ?_
          refine lv_if_eq (tgt := 75) hx hb d_Md_count_68 (by decide) (fun c_68 => ?_) (fun c_68 => absurd c_68 (by decide))
          refine lv_iconst (v := 0) hx hb d_Md_count_75 (by decide) ?_
          refine W.widen (k := 0) (n := 0) (by decide) (by decide) ?_
          exact W.iret (v := 0) hx hb hr (fun t ht hW => ⟨⟨0, (), rfl, rfl, by rw [ht]; exact hP, va_K.moved hW.alike hK, hD⟩, hS.F ht⟩) hS.2.2 d_Md_count_76
      · refine lv_aload_n hx hb d_Md_count_52 rfl (lv_at hl 0 rfl) ?_
        refine va_get (D := (dC, dI)) (ci := 7) (v := .int 0) (C := R_Md) (T := F_Md) (N := 15) hx hb hw in_Md hown hK hP 0 rfl rfl 7 (by decide) (hw (Cond.fieldLink "ClauseSearchModel" 50 "ClauseSearchModel" "given" "I") k_611) (fun _ h9 => h9) rfl d_Md_count_53 ?_
        refine lv_goto (tgt := 76) hx hb d_Md_count_56 (by decide) ?_
        refine W.widen (k := 0) (n := 0) (by decide) (by decide) ?_
        exact W.iret (v := 0) hx hb hr (fun t ht hW => ⟨⟨0, (), rfl, rfl, by rw [ht]; exact hP, va_K.moved hW.alike hK, hD⟩, hS.F ht⟩) hS.2.2 d_Md_count_76
    · refine lv_aload_n hx hb d_Md_count_40 rfl (lv_at hl 0 rfl) ?_
      refine va_get (D := (dC, dI)) (ci := 7) (v := .int 0) (C := R_Md) (T := F_Md) (N := 15) hx hb hw in_Md hown hK hP 0 rfl rfl 6 (by decide) (hw (Cond.fieldLink "ClauseSearchModel" 53 "ClauseSearchModel" "clauses" "I") k_610) (fun _ h9 => h9) rfl d_Md_count_41 ?_
      refine lv_goto (tgt := 76) hx hb d_Md_count_44 (by decide) ?_
      refine W.widen (k := 0) (n := 0) (by decide) (by decide) ?_
      exact W.iret (v := 0) hx hb hr (fun t ht hW => ⟨⟨0, (), rfl, rfl, by rw [ht]; exact hP, va_K.moved hW.alike hK, hD⟩, hS.F ht⟩) hS.2.2 d_Md_count_76
  · refine lv_aload_n hx hb d_Md_count_28 rfl (lv_at hl 0 rfl) ?_
    refine va_get (D := (dC, dI)) (ci := 7) (v := .int 0) (C := R_Md) (T := F_Md) (N := 15) hx hb hw in_Md hown hK hP 0 rfl rfl 5 (by decide) (hw (Cond.fieldLink "ClauseSearchModel" 43 "ClauseSearchModel" "variables" "I") k_609) (fun _ h9 => h9) rfl d_Md_count_29 ?_
    refine lv_goto (tgt := 76) hx hb d_Md_count_32 (by decide) ?_
    refine W.widen (k := 0) (n := 0) (by decide) (by decide) ?_
    exact W.iret (v := 0) hx hb hr (fun t ht hW => ⟨⟨0, (), rfl, rfl, by rw [ht]; exact hP, va_K.moved hW.alike hK, hD⟩, hS.F ht⟩) hS.2.2 d_Md_count_76
end
section
abbrev y_Md_search : MethodName := ⟨"ClauseSearchModel", "search", "()Z"⟩
abbrev y_Md_follow : MethodName := ⟨"ClauseSearchModel", "follow", "()Z"⟩
abbrev y_Md_solve : MethodName := ⟨"ClauseSearchModel", "solve", "()Z"⟩
theorem k_22 : (Cond.selects "ClauseSearchModel" ⟨"ClauseSearchModel", "search", "()Z"⟩ ⟨"ClauseSearchModel", "search", "()Z"⟩) ∈ bg_W := bg_in 22 (by decide +kernel) (by decide +kernel)
theorem k_25 : (Cond.selects "ClauseSearchModel" ⟨"ClauseSearchModel", "follow", "()Z"⟩ ⟨"ClauseSearchModel", "follow", "()Z"⟩) ∈ bg_W := bg_in 25 (by decide +kernel) (by decide +kernel)
theorem k_612 : (Cond.fieldLink "ClauseSearchModel" 70 "ClauseSearchModel" "assumptions" "I") ∈ bg_W := bg_in 612 (by decide +kernel) (by decide +kernel)
theorem k_616 : (Cond.fieldLink "ClauseSearchModel" 60 "ClauseSearchModel" "length" "I") ∈ bg_W := bg_in 616 (by decide +kernel) (by decide +kernel)
theorem k_674 : (Cond.methodLink "ClauseSearchModel" 80 ⟨"ClauseSearchModel", "search", "()Z"⟩) ∈ bg_W := bg_in 674 (by decide +kernel) (by decide +kernel)
theorem k_676 : (Cond.instanceMethod ⟨"ClauseSearchModel", "search", "()Z"⟩) ∈ bg_W := bg_in 676 (by decide +kernel) (by decide +kernel)
theorem k_677 : (Cond.code ⟨"ClauseSearchModel", "search", "()Z"⟩ prog_9_method_12_code 4 (some .boolean)) ∈ bg_W := bg_in 677 (by decide +kernel) (by decide +kernel)
theorem k_686 : (Cond.methodLink "ClauseSearchModel" 73 ⟨"ClauseSearchModel", "follow", "()Z"⟩) ∈ bg_W := bg_in 686 (by decide +kernel) (by decide +kernel)
theorem k_688 : (Cond.instanceMethod ⟨"ClauseSearchModel", "follow", "()Z"⟩) ∈ bg_W := bg_in 688 (by decide +kernel) (by decide +kernel)
theorem k_689 : (Cond.code ⟨"ClauseSearchModel", "follow", "()Z"⟩ prog_9_method_10_code 4 (some .boolean)) ∈ bg_W := bg_in 689 (by decide +kernel) (by decide +kernel)
theorem d_Md_search_2 : decode prog_9_method_12_code 2 = .ok (.iload_n 1, 1) := by decide +kernel
theorem d_Md_search_3 : decode prog_9_method_12_code 3 = .ok (.sipush 400, 3) := by decide +kernel
theorem d_Md_search_6 : decode prog_9_method_12_code 6 = .ok (.if_icmp .gt 16, 3) := by decide +kernel
theorem d_Md_search_9 : decode prog_9_method_12_code 9 = .ok (.aload_n 0, 1) := by decide +kernel
theorem d_Md_search_10 : decode prog_9_method_12_code 10 = .ok (.getfield 23, 3) := by decide +kernel
theorem d_Md_search_13 : decode prog_9_method_12_code 13 = .ok (.iload_n 1, 1) := by decide +kernel
theorem d_Md_search_14 : decode prog_9_method_12_code 14 = .ok (.iconst (-1), 1) := by decide +kernel
theorem d_Md_search_15 : decode prog_9_method_12_code 15 = .ok (.iastore, 1) := by decide +kernel
theorem d_Md_search_16 : decode prog_9_method_12_code 16 = .ok (.iinc 1 1, 3) := by decide +kernel
theorem d_Md_search_19 : decode prog_9_method_12_code 19 = .ok (.goto (-17), 3) := by decide +kernel
theorem d_Md_follow_0 : decode prog_9_method_10_code 0 = .ok (.iconst 1, 1) := by decide +kernel
theorem d_Md_follow_1 : decode prog_9_method_10_code 1 = .ok (.istore_n 1, 1) := by decide +kernel
theorem d_Md_follow_2 : decode prog_9_method_10_code 2 = .ok (.iload_n 1, 1) := by decide +kernel
theorem d_Md_follow_3 : decode prog_9_method_10_code 3 = .ok (.ifCond .eq 60, 3) := by decide +kernel
theorem d_Md_follow_6 : decode prog_9_method_10_code 6 = .ok (.iconst 0, 1) := by decide +kernel
theorem d_Md_follow_7 : decode prog_9_method_10_code 7 = .ok (.istore_n 1, 1) := by decide +kernel
theorem d_Md_follow_8 : decode prog_9_method_10_code 8 = .ok (.iconst 0, 1) := by decide +kernel
theorem d_Md_follow_9 : decode prog_9_method_10_code 9 = .ok (.istore_n 2, 1) := by decide +kernel
theorem d_Md_follow_10 : decode prog_9_method_10_code 10 = .ok (.iload_n 2, 1) := by decide +kernel
theorem d_Md_follow_11 : decode prog_9_method_10_code 11 = .ok (.aload_n 0, 1) := by decide +kernel
theorem d_Md_follow_12 : decode prog_9_method_10_code 12 = .ok (.getfield 53, 3) := by decide +kernel
theorem d_Md_follow_15 : decode prog_9_method_10_code 15 = .ok (.if_icmp .ge 45, 3) := by decide +kernel
theorem d_Md_follow_60 : decode prog_9_method_10_code 60 = .ok (.goto (-58), 3) := by decide +kernel
theorem d_Md_follow_63 : decode prog_9_method_10_code 63 = .ok (.iconst 1, 1) := by decide +kernel
theorem d_Md_follow_64 : decode prog_9_method_10_code 64 = .ok (.ireturn, 1) := by decide +kernel
theorem d_Md_search_0 : decode prog_9_method_12_code 0 = .ok (.iconst 0, 1) := by decide +kernel
theorem d_Md_search_1 : decode prog_9_method_12_code 1 = .ok (.istore_n 1, 1) := by decide +kernel
theorem d_Md_search_22 : decode prog_9_method_12_code 22 = .ok (.aload_n 0, 1) := by decide +kernel
theorem d_Md_search_23 : decode prog_9_method_12_code 23 = .ok (.iconst 0, 1) := by decide +kernel
theorem d_Md_search_24 : decode prog_9_method_12_code 24 = .ok (.putfield 60, 3) := by decide +kernel
theorem d_Md_search_27 : decode prog_9_method_12_code 27 = .ok (.iconst 0, 1) := by decide +kernel
theorem d_Md_search_28 : decode prog_9_method_12_code 28 = .ok (.istore_n 1, 1) := by decide +kernel
theorem d_Md_search_29 : decode prog_9_method_12_code 29 = .ok (.iload_n 1, 1) := by decide +kernel
theorem d_Md_search_30 : decode prog_9_method_12_code 30 = .ok (.aload_n 0, 1) := by decide +kernel
theorem d_Md_search_31 : decode prog_9_method_12_code 31 = .ok (.getfield 70, 3) := by decide +kernel
theorem d_Md_search_34 : decode prog_9_method_12_code 34 = .ok (.if_icmp .ge 40, 3) := by decide +kernel
theorem d_Md_search_74 : decode prog_9_method_12_code 74 = .ok (.aload_n 0, 1) := by decide +kernel
theorem d_Md_search_75 : decode prog_9_method_12_code 75 = .ok (.invokevirtual 73, 3) := by decide +kernel
theorem d_Md_search_78 : decode prog_9_method_12_code 78 = .ok (.istore_n 1, 1) := by decide +kernel
theorem d_Md_search_79 : decode prog_9_method_12_code 79 = .ok (.iconst 0, 1) := by decide +kernel
theorem d_Md_search_80 : decode prog_9_method_12_code 80 = .ok (.istore_n 2, 1) := by decide +kernel
theorem d_Md_search_81 : decode prog_9_method_12_code 81 = .ok (.iload_n 1, 1) := by decide +kernel
theorem d_Md_search_82 : decode prog_9_method_12_code 82 = .ok (.ifCond .eq 73, 3) := by decide +kernel
theorem d_Md_search_85 : decode prog_9_method_12_code 85 = .ok (.iconst 1, 1) := by decide +kernel
theorem d_Md_search_86 : decode prog_9_method_12_code 86 = .ok (.istore_n 3, 1) := by decide +kernel
theorem d_Md_search_87 : decode prog_9_method_12_code 87 = .ok (.iload_n 3, 1) := by decide +kernel
theorem d_Md_search_88 : decode prog_9_method_12_code 88 = .ok (.aload_n 0, 1) := by decide +kernel
theorem d_Md_search_89 : decode prog_9_method_12_code 89 = .ok (.getfield 43, 3) := by decide +kernel
theorem d_Md_search_92 : decode prog_9_method_12_code 92 = .ok (.if_icmp .gt 18, 3) := by decide +kernel
theorem d_Md_search_110 : decode prog_9_method_12_code 110 = .ok (.iload_n 3, 1) := by decide +kernel
theorem d_Md_search_111 : decode prog_9_method_12_code 111 = .ok (.aload_n 0, 1) := by decide +kernel
theorem d_Md_search_112 : decode prog_9_method_12_code 112 = .ok (.getfield 43, 3) := by decide +kernel
theorem d_Md_search_115 : decode prog_9_method_12_code 115 = .ok (.if_icmp .le 5, 3) := by decide +kernel
theorem d_Md_search_118 : decode prog_9_method_12_code 118 = .ok (.iconst 1, 1) := by decide +kernel
theorem d_Md_search_119 : decode prog_9_method_12_code 119 = .ok (.ireturn, 1) := by decide +kernel
theorem d_Md_solve_0 : decode prog_9_method_13_code 0 = .ok (.aload_n 0, 1) := by decide +kernel
theorem d_Md_solve_1 : decode prog_9_method_13_code 1 = .ok (.iconst 0, 1) := by decide +kernel
theorem d_Md_solve_2 : decode prog_9_method_13_code 2 = .ok (.putfield 35, 3) := by decide +kernel
theorem d_Md_solve_5 : decode prog_9_method_13_code 5 = .ok (.aload_n 0, 1) := by decide +kernel
theorem d_Md_solve_6 : decode prog_9_method_13_code 6 = .ok (.aload_n 0, 1) := by decide +kernel
theorem d_Md_solve_7 : decode prog_9_method_13_code 7 = .ok (.getfield 50, 3) := by decide +kernel
theorem d_Md_solve_10 : decode prog_9_method_13_code 10 = .ok (.putfield 70, 3) := by decide +kernel
theorem d_Md_solve_13 : decode prog_9_method_13_code 13 = .ok (.iconst 0, 1) := by decide +kernel
theorem d_Md_solve_14 : decode prog_9_method_13_code 14 = .ok (.istore_n 1, 1) := by decide +kernel
theorem d_Md_solve_15 : decode prog_9_method_13_code 15 = .ok (.iload_n 1, 1) := by decide +kernel
theorem d_Md_solve_16 : decode prog_9_method_13_code 16 = .ok (.aload_n 0, 1) := by decide +kernel
theorem d_Md_solve_17 : decode prog_9_method_13_code 17 = .ok (.getfield 50, 3) := by decide +kernel
theorem d_Md_solve_20 : decode prog_9_method_13_code 20 = .ok (.if_icmp .ge 21, 3) := by decide +kernel
theorem d_Md_solve_41 : decode prog_9_method_13_code 41 = .ok (.aload_n 0, 1) := by decide +kernel
theorem d_Md_solve_42 : decode prog_9_method_13_code 42 = .ok (.iconst 0, 1) := by decide +kernel
theorem d_Md_solve_43 : decode prog_9_method_13_code 43 = .ok (.putfield 50, 3) := by decide +kernel
theorem d_Md_solve_46 : decode prog_9_method_13_code 46 = .ok (.aload_n 0, 1) := by decide +kernel
theorem d_Md_solve_47 : decode prog_9_method_13_code 47 = .ok (.aload_n 0, 1) := by decide +kernel
theorem d_Md_solve_48 : decode prog_9_method_13_code 48 = .ok (.invokevirtual 80, 3) := by decide +kernel
theorem d_Md_solve_51 : decode prog_9_method_13_code 51 = .ok (.putfield 46, 3) := by decide +kernel
theorem d_Md_solve_54 : decode prog_9_method_13_code 54 = .ok (.aload_n 0, 1) := by decide +kernel
theorem d_Md_solve_55 : decode prog_9_method_13_code 55 = .ok (.getfield 46, 3) := by decide +kernel
theorem d_Md_solve_58 : decode prog_9_method_13_code 58 = .ok (.ireturn, 1) := by decide +kernel
set_option maxHeartbeats 4000000 in
set_option maxRecDepth 100000 in
/-- the loop that empties the way -/
theorem l_way {p : Program} {l : Launch} {e : Env} {R : Room} {s : State} {m : MethodId} {args : Array Value} {below : List Frame} {meth : Method} {c : Code} {dC : Nat → ClassId} {dI : Nat → Nat → Nat} {A : Nat → Prop} {Q : State → Prop} {cells slots : Nat} {H0 : Heap} {m0 j0 j1 j2 j3 j4 j5 j6 j7 : Nat} {ca : ClassId} (hx : p.tables.exec = Jvm.exec) (hb : c.code = prog_9_method_12_code) (hw : ∀ w ∈ bg_W, w.before args s = true) (hown : s.vm.findClass R_Md = some m.cls) (hK : va_K (dC, dI) vwCl [(ca, .int)] s)
    (kk : ∀ (g : Nat → Int32) (H : Heap) (locs : List Loc) (ls : Array Slot), (∀ j, j < 401 → g j = -1) → va_P (dC, dI) vwCl [(m0, .inr (7, [.ref j0, .ref j1, .ref j2, .ref j3, .ref j4, .int 0, .int 0, .int 0, .int 0, .int 0, .int 0, .ref j5, .int 0, .ref j6, .ref j7])), (j4, .inl (ca, 401, .inl g))] H → va_D A [(m0, .inr (7, [.ref j0, .ref j1, .ref j2, .ref j3, .ref j4, .int 0, .int 0, .int 0, .int 0, .int 0, .int 0, .ref j5, .int 0, .ref j6, .ref j7])), (j4, .inl (ca, 401, .inl g))] → va_S A H0 H locs → lv_has ls 4 [(0, .ref m0)] → W p l e R s m args below meth c H locs cells slots Q (F0 m 22 ls [])) :
    ∀ (k i : Nat) (x : Int32) (g : Nat → Int32) (H : Heap) (locs : List Loc) (ls : Array Slot), i ≤ 401 → 402 ≤ i + k → x = nI i → (∀ j, j < i → g j = -1) → va_P (dC, dI) vwCl [(m0, .inr (7, [.ref j0, .ref j1, .ref j2, .ref j3, .ref j4, .int 0, .int 0, .int 0, .int 0, .int 0, .int 0, .ref j5, .int 0, .ref j6, .ref j7])), (j4, .inl (ca, 401, .inl g))] H → va_D A [(m0, .inr (7, [.ref j0, .ref j1, .ref j2, .ref j3, .ref j4, .int 0, .int 0, .int 0, .int 0, .int 0, .int 0, .ref j5, .int 0, .ref j6, .ref j7])), (j4, .inl (ca, 401, .inl g))] → va_S A H0 H locs → lv_has ls 4 [(0, .ref m0), (1, .int x)] → W p l e R s m args below meth c H locs cells slots Q (F0 m 2 ls []) := by
  intro k
  induction k with
  | zero => intro i x g H locs ls h1 h2; exact absurd h2 (by omega)
  | succ k ih =>
    intro i x g H locs ls hi hk ex hg hP hD hS hl
    refine lv_iload_n hx hb d_Md_search_2 rfl (lv_at hl 1 rfl) ?_
    refine lv_sipush (v := 400) hx hb d_Md_search_3 (by decide) ?_
    refine lv_icmp_gt (tgt := 22) hx hb d_Md_search_6 (by decide) (fun c_6 => ?_) (fun c_6 => ?_)
    · exact kk g H locs ls (fun j hj => hg j (by have h9 := c_6; rw [ex] at h9; rcases Nat.lt_or_ge 400 i with q | q; omega; exact absurd h9 (Int32.not_lt.mpr (nI_le q (by decide))))) hP hD hS (lv_sub hl [0] rfl)
    · have hlt : i < 401 := by
        rcases Nat.lt_or_ge i 401 with q | q
        · exact q
        · exact absurd (by rw [ex]; exact nI_lt (b := i) (a := 400) (by omega) (by omega)) c_6
      refine lv_aload_n hx hb d_Md_search_9 rfl (lv_at hl 0 rfl) ?_
      refine va_get (D := (dC, dI)) (ci := 7) (v := .ref j4) (C := R_Md) (T := F_Md) (N := 15) hx hb hw in_Md hown hK hP 0 rfl rfl 4 (by decide) (hw (Cond.fieldLink "ClauseSearchModel" 23 "ClauseSearchModel" "way" "[I") k_608) (fun _ h9 => h9) rfl d_Md_search_10 ?_
      refine lv_iload_n hx hb d_Md_search_13 rfl (lv_at hl 1 rfl) ?_
      refine lv_iconst (v := (-1)) hx hb d_Md_search_14 (by decide) ?_
      refine va_iast hx hb hK hP hD hS 1 0 rfl rfl (by rw [ex]; exact vp_in_nI hlt (by decide)) d_Md_search_15 (fun H locs hP hD hS => ?_)
      have hP : va_P (dC, dI) vwCl [(m0, .inr (7, [.ref j0, .ref j1, .ref j2, .ref j3, .ref j4, .int 0, .int 0, .int 0, .int 0, .int 0, .int 0, .ref j5, .int 0, .ref j6, .ref j7])), (j4, .inl (ca, 401, .inl (upd g ((x : Int32).toNatClampNeg) (-1))))] H := hP
      have hD : va_D A [(m0, .inr (7, [.ref j0, .ref j1, .ref j2, .ref j3, .ref j4, .int 0, .int 0, .int 0, .int 0, .int 0, .int 0, .ref j5, .int 0, .ref j6, .ref j7])), (j4, .inl (ca, 401, .inl (upd g ((x : Int32).toNatClampNeg) (-1))))] := hD
      obtain ⟨v_1, ev_1⟩ : ∃ y : Int32, y = x + 1 := ⟨_, rfl⟩
      refine lv_iinc (v := v_1) (lv' := [(1, .int v_1), (0, .ref m0)]) hx hb d_Md_search_16 hl (k := 1) rfl (by rw [ev_1]; rfl) (by decide) rfl (fun ls hl => ?_)
      refine lv_goto (tgt := 2) hx hb d_Md_search_19 (by decide) ?_
      have hcl : x.toNatClampNeg = i := by rw [ex]; exact nI_clamp (by omega)
      rw [hcl] at hP hD
      exact ih (i + 1) _ (upd g i (-1)) _ _ ls (by omega) (by omega) (by rw [ev_1, ex]; exact nI_1 i) (up_all hg) hP hD hS (lv_sub hl [1, 0] rfl)

set_option maxHeartbeats 4000000 in
set_option maxRecDepth 100000 in
/-- follow() without clauses -/
theorem c_Md_follow_0 (l : Launch) (dC : Nat → ClassId) (dI : Nat → Nat → Nat) (m0 : Nat) (j0 : Nat) (j1 : Nat) (j2 : Nat) (j3 : Nat) (j4 : Nat) (j5 : Nat) (j6 : Nat) (j7 : Nat) (sz : Nat) : Met l y_Md_follow (wq y_Md_follow prog_9_method_10_code 4 (some .boolean)) ({ frames := 0, cells := 0, slots := 0, locals := 0 }) (va_Pc [.ref m0] (fun U => U.heap.size = sz ∧ va_P (dC, dI) vwCl [(m0, .inr (7, [.ref j0, .ref j1, .ref j2, .ref j3, .ref j4, .int 0, .int 0, .int 0, .int 0, .int 0, .int 0, .ref j5, .int 0, .ref j6, .ref j7]))] U.heap ∧ va_K (dC, dI) vwCl [] U ∧ va_D (fun _ => True) [(m0, .inr (7, [.ref j0, .ref j1, .ref j2, .ref j3, .ref j4, .int 0, .int 0, .int 0, .int 0, .int 0, .int 0, .ref j5, .int 0, .ref j6, .ref j7]))])) (va_Qi (fun (r : Int32) (_ : Unit) => r = 1) (fun (_ : Unit) t => va_P (dC, dI) vwCl [(m0, .inr (7, [.ref j0, .ref j1, .ref j2, .ref j3, .ref j4, .int 0, .int 0, .int 0, .int 0, .int 0, .int 0, .ref j5, .int 0, .ref j6, .ref j7]))] t.heap ∧ va_K (dC, dI) vwCl [] t ∧ va_D (va_A [(m0, .inr (7, [.ref j0, .ref j1, .ref j2, .ref j3, .ref j4, .int 0, .int 0, .int 0, .int 0, .int 0, .int 0, .ref j5, .int 0, .ref j6, .ref j7]))] sz) [(m0, .inr (7, [.ref j0, .ref j1, .ref j2, .ref j3, .ref j4, .int 0, .int 0, .int 0, .int 0, .int 0, .int 0, .ref j5, .int 0, .ref j6, .ref j7]))]) (va_A [(m0, .inr (7, [.ref j0, .ref j1, .ref j2, .ref j3, .ref j4, .int 0, .int 0, .int 0, .int 0, .int 0, .int 0, .ref j5, .int 0, .ref j6, .ref j7]))] sz)) 0 0 (va_A [(m0, .inr (7, [.ref j0, .ref j1, .ref j2, .ref j3, .ref j4, .int 0, .int 0, .int 0, .int 0, .int 0, .int 0, .ref j5, .int 0, .ref j6, .ref j7]))] sz) := by
  refine Met.ofW (cc := prog_9_method_10_code) (maxL := 4) (ret := (some .boolean)) (by decide) rfl ?_
  intro p e s m args below meth c s₁ B hml hv
  obtain ⟨rfl, hsz, hP, hK, hD0⟩ := hv
  have hx := B.exec
  have hb := B.bytes
  have hr := B.returns
  have hw : ∀ w ∈ bg_W, w.before #[Value.ref m0] s = true := fun w h => atoms_spec (ws := (wq y_Md_follow prog_9_method_10_code 4 (some .boolean))) B.pre w (List.mem_cons_of_mem _ h)
  have hown : s.vm.findClass R_Md = some m.cls := findClass_of_methodNamed B.named
  have hlocks := B.notSynchronized
  subst hsz
  have hD := hD0.self (sz := s.heap.size)
  generalize hAe : va_A [(m0, .inr (7, [.ref j0, .ref j1, .ref j2, .ref j3, .ref j4, .int 0, .int 0, .int 0, .int 0, .int 0, .int 0, .ref j5, .int 0, .ref j6, .ref j7]))] s.heap.size = A at hD ⊢
  have hA : ∀ q : Nat, s.heap.size ≤ q → A q := fun q h => by rw [← hAe]; exact Or.inr h
  have hS : va_S A s.heap s.heap [] := va_S.rf
  have hP : va_P (dC, dI) vwCl [(m0, .inr (7, [.ref j0, .ref j1, .ref j2, .ref j3, .ref j4, .int 0, .int 0, .int 0, .int 0, .int 0, .int 0, .ref j5, .int 0, .ref j6, .ref j7]))] s.heap := hP
  have hl := lv_entry ([.ref m0]) (n := 4) (Nat.le_of_ble_eq_true rfl)
  rw [lg_entry_eq]
  generalize (lg_sl ([.ref m0]) ++ List.replicate (4 - (lg_sl ([.ref m0])).length) Slot.unset).toArray = ls at hl ⊢
  have hl : lv_has ls 4 [(0, .ref m0)] := hl
  obtain ⟨H, hH⟩ : ∃ H : Heap, H = s.heap := ⟨_, rfl⟩
  rw [← hH] at hP
  have hS : va_S A s.heap H [] := by rw [hH]; exact va_S.rf
  show W p l e _ s m _ below meth c s.heap [] 0 0 _ _
  rw [← hH]
  refine lv_iconst (v := 1) hx hb d_Md_follow_0 (by decide) ?_
  refine lv_istore_n (lv' := [(1, .int 1), (0, .ref m0)]) hx hb d_Md_follow_1 rfl hl (by decide) rfl (fun ls hl => ?_)
  refine lv_iload_n hx hb d_Md_follow_2 rfl (lv_at hl 0 rfl) ?_
  refine lv_if_eq (tgt := 63) hx hb d_Md_follow_3 (by decide) (fun c_3 => absurd c_3 (by decide)) (fun c_3 => ?_)
  refine lv_iconst (v := 0) hx hb d_Md_follow_6 (by decide) ?_
  refine lv_istore_n (lv' := [(1, .int 0), (0, .ref m0)]) hx hb d_Md_follow_7 rfl hl (by decide) rfl (fun ls hl => ?_)
  refine lv_iconst (v := 0) hx hb d_Md_follow_8 (by decide) ?_
  refine lv_istore_n (lv' := [(2, .int 0), (1, .int 0), (0, .ref m0)]) hx hb d_Md_follow_9 rfl hl (by decide) rfl (fun ls hl => ?_)
  refine lv_iload_n hx hb d_Md_follow_10 rfl (lv_at hl 0 rfl) ?_
  refine lv_aload_n hx hb d_Md_follow_11 rfl (lv_at hl 2 rfl) ?_
  refine va_get (D := (dC, dI)) (ci := 7) (v := .int 0) (C := R_Md) (T := F_Md) (N := 15) hx hb hw in_Md hown hK hP 0 rfl rfl 6 (by decide) (hw (Cond.fieldLink "ClauseSearchModel" 53 "ClauseSearchModel" "clauses" "I") k_610) (fun _ h9 => h9) rfl d_Md_follow_12 ?_
  refine lv_icmp_ge (tgt := 60) hx hb d_Md_follow_15 (by decide) (fun c_15 => ?_) (fun c_15 => absurd c_15 (by decide))
  refine lv_goto (tgt := 2) hx hb d_Md_follow_60 (by decide) ?_
  refine lv_iload_n hx hb d_Md_follow_2 rfl (lv_at hl 1 rfl) ?_
  refine lv_if_eq (tgt := 63) hx hb d_Md_follow_3 (by decide) (fun c_3 => ?_) (fun c_3 => absurd c_3 (by decide))
  refine lv_iconst (v := 1) hx hb d_Md_follow_63 (by decide) ?_
  refine W.widen (k := 0) (n := 0) (by decide) (by decide) ?_
  exact W.zret (v := 1) hx hb hr rfl (fun t ht hW => ⟨⟨1, (), rfl, rfl, by rw [ht]; exact hP, va_K.moved hW.alike hK, hD⟩, hS.F ht⟩) hS.2.2 d_Md_follow_64

set_option maxHeartbeats 4000000 in
set_option maxRecDepth 100000 in
/-- search() of a new model -/
theorem c_Md_search_0 (l : Launch) (dC : Nat → ClassId) (dI : Nat → Nat → Nat) (m0 : Nat) (j0 : Nat) (j1 : Nat) (j2 : Nat) (j3 : Nat) (j4 : Nat) (j5 : Nat) (j6 : Nat) (j7 : Nat) (ca : ClassId) (sz : Nat) (f : Nat → Int32) : Met l y_Md_search (wq y_Md_search prog_9_method_12_code 4 (some .boolean)) ({ frames := 1, cells := 0, slots := 0, locals := 23 }) (va_Pc [.ref m0] (fun U => U.heap.size = sz ∧ va_P (dC, dI) vwCl [(m0, .inr (7, [.ref j0, .ref j1, .ref j2, .ref j3, .ref j4, .int 0, .int 0, .int 0, .int 0, .int 0, .int 0, .ref j5, .int 0, .ref j6, .ref j7])), (j4, .inl (ca, 401, .inl f))] U.heap ∧ va_K (dC, dI) vwCl [(ca, .int)] U ∧ va_D (fun _ => True) [(m0, .inr (7, [.ref j0, .ref j1, .ref j2, .ref j3, .ref j4, .int 0, .int 0, .int 0, .int 0, .int 0, .int 0, .ref j5, .int 0, .ref j6, .ref j7])), (j4, .inl (ca, 401, .inl f))])) (va_Qi (fun (r : Int32) (_ : Unit) => r = 1) (fun (_ : Unit) t => ∃ (g_900 : Nat → Int32), (∀ j, j < 401 → g_900 j = -1) ∧ va_P (dC, dI) vwCl [(j4, .inl (ca, 401, .inl g_900)), (m0, .inr (7, [.ref j0, .ref j1, .ref j2, .ref j3, .ref j4, .int 0, .int 0, .int 0, .int 0, .int 0, .int 0, .ref j5, .int 0, .ref j6, .ref j7]))] t.heap ∧ va_K (dC, dI) vwCl [(ca, .int)] t ∧ va_D (va_A [(m0, .inr (7, [.ref j0, .ref j1, .ref j2, .ref j3, .ref j4, .int 0, .int 0, .int 0, .int 0, .int 0, .int 0, .ref j5, .int 0, .ref j6, .ref j7])), (j4, .inl (ca, 401, .inl f))] sz) [(j4, .inl (ca, 401, .inl g_900)), (m0, .inr (7, [.ref j0, .ref j1, .ref j2, .ref j3, .ref j4, .int 0, .int 0, .int 0, .int 0, .int 0, .int 0, .ref j5, .int 0, .ref j6, .ref j7]))]) (va_A [(m0, .inr (7, [.ref j0, .ref j1, .ref j2, .ref j3, .ref j4, .int 0, .int 0, .int 0, .int 0, .int 0, .int 0, .ref j5, .int 0, .ref j6, .ref j7])), (j4, .inl (ca, 401, .inl f))] sz)) 0 0 (va_A [(m0, .inr (7, [.ref j0, .ref j1, .ref j2, .ref j3, .ref j4, .int 0, .int 0, .int 0, .int 0, .int 0, .int 0, .ref j5, .int 0, .ref j6, .ref j7])), (j4, .inl (ca, 401, .inl f))] sz) := by
  refine Met.ofW (cc := prog_9_method_12_code) (maxL := 4) (ret := (some .boolean)) (by decide) rfl ?_
  intro p e s m args below meth c s₁ B hml hv
  obtain ⟨rfl, hsz, hP, hK, hD0⟩ := hv
  have hx := B.exec
  have hb := B.bytes
  have hr := B.returns
  have hw : ∀ w ∈ bg_W, w.before #[Value.ref m0] s = true := fun w h => atoms_spec (ws := (wq y_Md_search prog_9_method_12_code 4 (some .boolean))) B.pre w (List.mem_cons_of_mem _ h)
  have hown : s.vm.findClass R_Md = some m.cls := findClass_of_methodNamed B.named
  have hlocks := B.notSynchronized
  subst hsz
  have hD := hD0.self (sz := s.heap.size)
  generalize hAe : va_A [(m0, .inr (7, [.ref j0, .ref j1, .ref j2, .ref j3, .ref j4, .int 0, .int 0, .int 0, .int 0, .int 0, .int 0, .ref j5, .int 0, .ref j6, .ref j7])), (j4, .inl (ca, 401, .inl f))] s.heap.size = A at hD ⊢
  have hA : ∀ q : Nat, s.heap.size ≤ q → A q := fun q h => by rw [← hAe]; exact Or.inr h
  have hS : va_S A s.heap s.heap [] := va_S.rf
  have hP : va_P (dC, dI) vwCl [(m0, .inr (7, [.ref j0, .ref j1, .ref j2, .ref j3, .ref j4, .int 0, .int 0, .int 0, .int 0, .int 0, .int 0, .ref j5, .int 0, .ref j6, .ref j7])), (j4, .inl (ca, 401, .inl f))] s.heap := hP
  have hl := lv_entry ([.ref m0]) (n := 4) (Nat.le_of_ble_eq_true rfl)
  rw [lg_entry_eq]
  generalize (lg_sl ([.ref m0]) ++ List.replicate (4 - (lg_sl ([.ref m0])).length) Slot.unset).toArray = ls at hl ⊢
  have hl : lv_has ls 4 [(0, .ref m0)] := hl
  obtain ⟨H, hH⟩ : ∃ H : Heap, H = s.heap := ⟨_, rfl⟩
  rw [← hH] at hP
  have hS : va_S A s.heap H [] := by rw [hH]; exact va_S.rf
  show W p l e _ s m _ below meth c s.heap [] 0 0 _ _
  rw [← hH]
  refine lv_iconst (v := 0) hx hb d_Md_search_0 (by decide) ?_
  refine lv_istore_n (lv' := [(1, .int 0), (0, .ref m0)]) hx hb d_Md_search_1 rfl hl (by decide) rfl (fun ls hl => ?_)
  refine l_way hx hb hw hown hK (fun g_900 H locs ls hg hP hD hS hl => ?_) 402 0 0 f _ _ ls (by decide) (by decide) nI_0.symm (fun j hj => absurd hj (Nat.not_lt_zero j)) hP hD hS (lv_sub hl [1, 0] rfl)
  refine lv_aload_n hx hb d_Md_search_22 rfl (lv_at hl 0 rfl) ?_
  refine lv_iconst (v := 0) hx hb d_Md_search_23 (by decide) ?_
  refine va_put (D := (dC, dI)) (ci := 7) (v := .int 0) (ty := .int) (C := R_Md) (T := F_Md) (N := 15) hx hb hw in_Md t_Md t_Md_ok n_Md hown hK hP hD hS 0 rfl rfl 12 (by decide) (hw (Cond.fieldLink "ClauseSearchModel" 60 "ClauseSearchModel" "length" "I") k_616) (fun _ h9 => h9) rfl (by decide +kernel) rfl rfl (Nat.le_of_ble_eq_true rfl) d_Md_search_24 (fun H locs hP hD hS => ?_)
  have hP : va_P (dC, dI) vwCl [(m0, .inr (7, [.ref j0, .ref j1, .ref j2, .ref j3, .ref j4, .int 0, .int 0, .int 0, .int 0, .int 0, .int 0, .ref j5, .int 0, .ref j6, .ref j7])), (j4, .inl (ca, 401, .inl g_900))] H := hP
  have hD : va_D A [(m0, .inr (7, [.ref j0, .ref j1, .ref j2, .ref j3, .ref j4, .int 0, .int 0, .int 0, .int 0, .int 0, .int 0, .ref j5, .int 0, .ref j6, .ref j7])), (j4, .inl (ca, 401, .inl g_900))] := hD
  refine lv_iconst (v := 0) hx hb d_Md_search_27 (by decide) ?_
  refine lv_istore_n (lv' := [(1, .int 0), (0, .ref m0)]) hx hb d_Md_search_28 rfl hl (by decide) rfl (fun ls hl => ?_)
  refine lv_iload_n hx hb d_Md_search_29 rfl (lv_at hl 0 rfl) ?_
  refine lv_aload_n hx hb d_Md_search_30 rfl (lv_at hl 1 rfl) ?_
  refine va_get (D := (dC, dI)) (ci := 7) (v := .int 0) (C := R_Md) (T := F_Md) (N := 15) hx hb hw in_Md hown hK hP 0 rfl rfl 8 (by decide) (hw (Cond.fieldLink "ClauseSearchModel" 70 "ClauseSearchModel" "assumptions" "I") k_612) (fun _ h9 => h9) rfl d_Md_search_31 ?_
  refine lv_icmp_ge (tgt := 74) hx hb d_Md_search_34 (by decide) (fun c_34 => ?_) (fun c_34 => absurd c_34 (by decide))
  refine lv_aload_n hx hb d_Md_search_74 rfl (lv_at hl 1 rfl) ?_
  have hPc := hP.sub (ws' := [(m0, .inr (7, [.ref j0, .ref j1, .ref j2, .ref j3, .ref j4, .int 0, .int 0, .int 0, .int 0, .int 0, .int 0, .ref j5, .int 0, .ref j6, .ref j7]))]) [0] rfl
  have hDc := hD.sub (ws' := [(m0, .inr (7, [.ref j0, .ref j1, .ref j2, .ref j3, .ref j4, .int 0, .int 0, .int 0, .int 0, .int 0, .int 0, .ref j5, .int 0, .ref j6, .ref j7]))]) [0] (by decide) rfl
  have hKc := hK.sub (tys' := []) [] rfl
  have hFc := va_free (wc := [(m0, .inr (7, [.ref j0, .ref j1, .ref j2, .ref j3, .ref j4, .int 0, .int 0, .int 0, .int 0, .int 0, .int 0, .ref j5, .int 0, .ref j6, .ref j7]))]) hD hS hA [0] rfl
  refine va_calli (va_runV (As := []) (rest := []) ⟨hx, hb, hml, hown, hw⟩ (c_Md_follow_0 l dC dI m0 j0 j1 j2 j3 j4 j5 j6 j7 H.size) (cb_V (C := R_Md) 0 hw k_689 k_37 k_686 k_688 k_25 rfl rfl (by decide +kernel) ⟨Nat.le_of_ble_eq_true rfl, Nat.le_of_ble_eq_true rfl⟩) ⟨fun a U g mk q => by obtain ⟨q0, q1, qP, qK, qD⟩ := q; exact ⟨q0, q1, qP, va_K.moved (u := U) (U := U.calling g mk a) (Vm.Alike.refl U.vm) qK, qD⟩, va_recv hKc hPc (ci := 7) (q0 := 0) rfl rfl, fun U hU hW => ⟨rfl, by rw [hU], by rw [hU]; exact hPc, va_K.moved hW.alike hKc, hDc.weaken (fun _ _ _ _ => trivial)⟩⟩ rfl rfl hl.1 rfl (lv_room (Nat.le_of_ble_eq_true rfl)) d_Md_search_75 ⟨Nat.le_of_ble_eq_true rfl, Nat.le_of_ble_eq_true rfl⟩) hS (fun q _ h => hFc q h) hFc (fun r_1 u t H1 locs ht hvm hw9 hB hz1 hk1 hS => ?_)
  obtain ⟨hP1, hK1, hD1⟩ := hB
  rw [ht] at hP1
  have hK1 := va_K.moved hvm.symm hK1
  obtain ⟨hP, hD⟩ := va_join (wr := [(j4, .inl (ca, 401, .inl g_900))]) (w1 := [(m0, .inr (7, [.ref j0, .ref j1, .ref j2, .ref j3, .ref j4, .int 0, .int 0, .int 0, .int 0, .int 0, .int 0, .ref j5, .int 0, .ref j6, .ref j7]))]) hP hD [0] [1] rfl rfl (by decide) (by decide) hk1 hFc hP1 hD1
  generalize H1 = H at hP hS ⊢
  have hP : va_P (dC, dI) vwCl [(j4, .inl (ca, 401, .inl g_900)), (m0, .inr (7, [.ref j0, .ref j1, .ref j2, .ref j3, .ref j4, .int 0, .int 0, .int 0, .int 0, .int 0, .int 0, .ref j5, .int 0, .ref j6, .ref j7]))] H := hP
  have hD : va_D A [(j4, .inl (ca, 401, .inl g_900)), (m0, .inr (7, [.ref j0, .ref j1, .ref j2, .ref j3, .ref j4, .int 0, .int 0, .int 0, .int 0, .int 0, .int 0, .ref j5, .int 0, .ref j6, .ref j7]))] := hD
  refine W.widen (k := 0) (n := 0) (by decide) (by decide) ?_
  have hw9 : r_1 = 1 := hw9
  subst hw9
  refine lv_istore_n (lv' := [(1, .int 1), (0, .ref m0)]) hx hb d_Md_search_78 rfl hl (by decide) rfl (fun ls hl => ?_)
  refine lv_iconst (v := 0) hx hb d_Md_search_79 (by decide) ?_
  refine lv_istore_n (lv' := [(2, .int 0), (1, .int 1), (0, .ref m0)]) hx hb d_Md_search_80 rfl hl (by decide) rfl (fun ls hl => ?_)
  refine lv_iload_n hx hb d_Md_search_81 rfl (lv_at hl 1 rfl) ?_
  refine lv_if_eq (tgt := 155) hx hb d_Md_search_82 (by decide) (fun c_82 => absurd c_82 (by decide)) (fun c_82 => ?_)
  refine lv_iconst (v := 1) hx hb d_Md_search_85 (by decide) ?_
  refine lv_istore_n (lv' := [(3, .int 1), (2, .int 0), (1, .int 1), (0, .ref m0)]) hx hb d_Md_search_86 rfl hl (by decide) rfl (fun ls hl => ?_)
  refine lv_iload_n hx hb d_Md_search_87 rfl (lv_at hl 0 rfl) ?_
  refine lv_aload_n hx hb d_Md_search_88 rfl (lv_at hl 3 rfl) ?_
  refine va_get (D := (dC, dI)) (ci := 7) (v := .int 0) (C := R_Md) (T := F_Md) (N := 15) hx hb hw in_Md hown hK hP 1 rfl rfl 5 (by decide) (hw (Cond.fieldLink "ClauseSearchModel" 43 "ClauseSearchModel" "variables" "I") k_609) (fun _ h9 => h9) rfl d_Md_search_89 ?_
  refine lv_icmp_gt (tgt := 110) hx hb d_Md_search_92 (by decide) (fun c_92 => ?_) (fun c_92 => absurd c_92 (by decide))
  refine lv_iload_n hx hb d_Md_search_110 rfl (lv_at hl 0 rfl) ?_
  refine lv_aload_n hx hb d_Md_search_111 rfl (lv_at hl 3 rfl) ?_
  refine va_get (D := (dC, dI)) (ci := 7) (v := .int 0) (C := R_Md) (T := F_Md) (N := 15) hx hb hw in_Md hown hK hP 1 rfl rfl 5 (by decide) (hw (Cond.fieldLink "ClauseSearchModel" 43 "ClauseSearchModel" "variables" "I") k_609) (fun _ h9 => h9) rfl d_Md_search_112 ?_
  refine lv_icmp_le (tgt := 120) hx hb d_Md_search_115 (by decide) (fun c_115 => absurd c_115 (by decide)) (fun c_115 => ?_)
  refine lv_iconst (v := 1) hx hb d_Md_search_118 (by decide) ?_
  refine W.widen (k := 0) (n := 0) (by decide) (by decide) ?_
  exact W.zret (v := 1) hx hb hr rfl (fun t ht hW => ⟨⟨1, (), rfl, rfl, g_900, hg, by rw [ht]; exact hP, va_K.moved hW.alike hK, hD⟩, hS.F ht⟩) hS.2.2 d_Md_search_119

set_option maxHeartbeats 4000000 in
set_option maxRecDepth 100000 in
/-- solve() of a new model -/
theorem c_Md_solve_0 (l : Launch) (dC : Nat → ClassId) (dI : Nat → Nat → Nat) (m0 : Nat) (j0 : Nat) (j1 : Nat) (j2 : Nat) (j3 : Nat) (j4 : Nat) (j5 : Nat) (j6 : Nat) (j7 : Nat) (ca : ClassId) (sz : Nat) (f : Nat → Int32) : Met l y_Md_solve (wq y_Md_solve prog_9_method_13_code 2 (some .boolean)) ({ frames := 2, cells := 0, slots := 0, locals := 46 }) (va_Pc [.ref m0] (fun U => U.heap.size = sz ∧ va_P (dC, dI) vwCl [(m0, .inr (7, [.ref j0, .ref j1, .ref j2, .ref j3, .ref j4, .int 0, .int 0, .int 0, .int 0, .int 0, .int 0, .ref j5, .int 0, .ref j6, .ref j7])), (j4, .inl (ca, 401, .inl f))] U.heap ∧ va_K (dC, dI) vwCl [(ca, .int)] U ∧ va_D (fun _ => True) [(m0, .inr (7, [.ref j0, .ref j1, .ref j2, .ref j3, .ref j4, .int 0, .int 0, .int 0, .int 0, .int 0, .int 0, .ref j5, .int 0, .ref j6, .ref j7])), (j4, .inl (ca, 401, .inl f))])) (va_Qi (fun (r : Int32) (_ : Unit) => r = 1) (fun (_ : Unit) t => ∃ (g_2 : Nat → Int32), (∀ j, j < 401 → g_2 j = -1) ∧ va_P (dC, dI) vwCl [(j4, .inl (ca, 401, .inl g_2)), (m0, .inr (7, [.ref j0, .ref j1, .ref j2, .ref j3, .ref j4, .int 0, .int 0, .int 0, .int 0, .int 1, .int 0, .ref j5, .int 0, .ref j6, .ref j7]))] t.heap ∧ va_K (dC, dI) vwCl [(ca, .int)] t ∧ va_D (va_A [(m0, .inr (7, [.ref j0, .ref j1, .ref j2, .ref j3, .ref j4, .int 0, .int 0, .int 0, .int 0, .int 0, .int 0, .ref j5, .int 0, .ref j6, .ref j7])), (j4, .inl (ca, 401, .inl f))] sz) [(j4, .inl (ca, 401, .inl g_2)), (m0, .inr (7, [.ref j0, .ref j1, .ref j2, .ref j3, .ref j4, .int 0, .int 0, .int 0, .int 0, .int 1, .int 0, .ref j5, .int 0, .ref j6, .ref j7]))]) (va_A [(m0, .inr (7, [.ref j0, .ref j1, .ref j2, .ref j3, .ref j4, .int 0, .int 0, .int 0, .int 0, .int 0, .int 0, .ref j5, .int 0, .ref j6, .ref j7])), (j4, .inl (ca, 401, .inl f))] sz)) 0 0 (va_A [(m0, .inr (7, [.ref j0, .ref j1, .ref j2, .ref j3, .ref j4, .int 0, .int 0, .int 0, .int 0, .int 0, .int 0, .ref j5, .int 0, .ref j6, .ref j7])), (j4, .inl (ca, 401, .inl f))] sz) := by
  refine Met.ofW (cc := prog_9_method_13_code) (maxL := 2) (ret := (some .boolean)) (by decide) rfl ?_
  intro p e s m args below meth c s₁ B hml hv
  obtain ⟨rfl, hsz, hP, hK, hD0⟩ := hv
  have hx := B.exec
  have hb := B.bytes
  have hr := B.returns
  have hw : ∀ w ∈ bg_W, w.before #[Value.ref m0] s = true := fun w h => atoms_spec (ws := (wq y_Md_solve prog_9_method_13_code 2 (some .boolean))) B.pre w (List.mem_cons_of_mem _ h)
  have hown : s.vm.findClass R_Md = some m.cls := findClass_of_methodNamed B.named
  have hlocks := B.notSynchronized
  subst hsz
  have hD := hD0.self (sz := s.heap.size)
  generalize hAe : va_A [(m0, .inr (7, [.ref j0, .ref j1, .ref j2, .ref j3, .ref j4, .int 0, .int 0, .int 0, .int 0, .int 0, .int 0, .ref j5, .int 0, .ref j6, .ref j7])), (j4, .inl (ca, 401, .inl f))] s.heap.size = A at hD ⊢
  have hA : ∀ q : Nat, s.heap.size ≤ q → A q := fun q h => by rw [← hAe]; exact Or.inr h
  have hS : va_S A s.heap s.heap [] := va_S.rf
  have hP : va_P (dC, dI) vwCl [(m0, .inr (7, [.ref j0, .ref j1, .ref j2, .ref j3, .ref j4, .int 0, .int 0, .int 0, .int 0, .int 0, .int 0, .ref j5, .int 0, .ref j6, .ref j7])), (j4, .inl (ca, 401, .inl f))] s.heap := hP
  have hl := lv_entry ([.ref m0]) (n := 2) (Nat.le_of_ble_eq_true rfl)
  rw [lg_entry_eq]
  generalize (lg_sl ([.ref m0]) ++ List.replicate (2 - (lg_sl ([.ref m0])).length) Slot.unset).toArray = ls at hl ⊢
  have hl : lv_has ls 2 [(0, .ref m0)] := hl
  obtain ⟨H, hH⟩ : ∃ H : Heap, H = s.heap := ⟨_, rfl⟩
  rw [← hH] at hP
  have hS : va_S A s.heap H [] := by rw [hH]; exact va_S.rf
  show W p l e _ s m _ below meth c s.heap [] 0 0 _ _
  rw [← hH]
  refine lv_aload_n hx hb d_Md_solve_0 rfl (lv_at hl 0 rfl) ?_
  refine lv_iconst (v := 0) hx hb d_Md_solve_1 (by decide) ?_
  refine va_put (D := (dC, dI)) (ci := 7) (v := .int 0) (ty := .int) (C := R_Md) (T := F_Md) (N := 15) hx hb hw in_Md t_Md t_Md_ok n_Md hown hK hP hD hS 0 rfl rfl 10 (by decide) (hw (Cond.fieldLink "ClauseSearchModel" 35 "ClauseSearchModel" "code" "I") k_614) (fun _ h9 => h9) rfl (by decide +kernel) rfl rfl (Nat.le_of_ble_eq_true rfl) d_Md_solve_2 (fun H locs hP hD hS => ?_)
  have hP : va_P (dC, dI) vwCl [(m0, .inr (7, [.ref j0, .ref j1, .ref j2, .ref j3, .ref j4, .int 0, .int 0, .int 0, .int 0, .int 0, .int 0, .ref j5, .int 0, .ref j6, .ref j7])), (j4, .inl (ca, 401, .inl f))] H := hP
  have hD : va_D A [(m0, .inr (7, [.ref j0, .ref j1, .ref j2, .ref j3, .ref j4, .int 0, .int 0, .int 0, .int 0, .int 0, .int 0, .ref j5, .int 0, .ref j6, .ref j7])), (j4, .inl (ca, 401, .inl f))] := hD
  refine lv_aload_n hx hb d_Md_solve_5 rfl (lv_at hl 0 rfl) ?_
  refine lv_aload_n hx hb d_Md_solve_6 rfl (lv_at hl 0 rfl) ?_
  refine va_get (D := (dC, dI)) (ci := 7) (v := .int 0) (C := R_Md) (T := F_Md) (N := 15) hx hb hw in_Md hown hK hP 0 rfl rfl 7 (by decide) (hw (Cond.fieldLink "ClauseSearchModel" 50 "ClauseSearchModel" "given" "I") k_611) (fun _ h9 => h9) rfl d_Md_solve_7 ?_
  refine va_put (D := (dC, dI)) (ci := 7) (v := .int 0) (ty := .int) (C := R_Md) (T := F_Md) (N := 15) hx hb hw in_Md t_Md t_Md_ok n_Md hown hK hP hD hS 0 rfl rfl 8 (by decide) (hw (Cond.fieldLink "ClauseSearchModel" 70 "ClauseSearchModel" "assumptions" "I") k_612) (fun _ h9 => h9) rfl (by decide +kernel) rfl rfl (Nat.le_of_ble_eq_true rfl) d_Md_solve_10 (fun H locs hP hD hS => ?_)
  have hP : va_P (dC, dI) vwCl [(m0, .inr (7, [.ref j0, .ref j1, .ref j2, .ref j3, .ref j4, .int 0, .int 0, .int 0, .int 0, .int 0, .int 0, .ref j5, .int 0, .ref j6, .ref j7])), (j4, .inl (ca, 401, .inl f))] H := hP
  have hD : va_D A [(m0, .inr (7, [.ref j0, .ref j1, .ref j2, .ref j3, .ref j4, .int 0, .int 0, .int 0, .int 0, .int 0, .int 0, .ref j5, .int 0, .ref j6, .ref j7])), (j4, .inl (ca, 401, .inl f))] := hD
  refine lv_iconst (v := 0) hx hb d_Md_solve_13 (by decide) ?_
  refine lv_istore_n (lv' := [(1, .int 0), (0, .ref m0)]) hx hb d_Md_solve_14 rfl hl (by decide) rfl (fun ls hl => ?_)
  refine lv_iload_n hx hb d_Md_solve_15 rfl (lv_at hl 0 rfl) ?_
  refine lv_aload_n hx hb d_Md_solve_16 rfl (lv_at hl 1 rfl) ?_
  refine va_get (D := (dC, dI)) (ci := 7) (v := .int 0) (C := R_Md) (T := F_Md) (N := 15) hx hb hw in_Md hown hK hP 0 rfl rfl 7 (by decide) (hw (Cond.fieldLink "ClauseSearchModel" 50 "ClauseSearchModel" "given" "I") k_611) (fun _ h9 => h9) rfl d_Md_solve_17 ?_
  refine lv_icmp_ge (tgt := 41) hx hb d_Md_solve_20 (by decide) (fun c_20 => ?_) (fun c_20 => absurd c_20 (by decide))
  refine lv_aload_n hx hb d_Md_solve_41 rfl (lv_at hl 1 rfl) ?_
  refine lv_iconst (v := 0) hx hb d_Md_solve_42 (by decide) ?_
  refine va_put (D := (dC, dI)) (ci := 7) (v := .int 0) (ty := .int) (C := R_Md) (T := F_Md) (N := 15) hx hb hw in_Md t_Md t_Md_ok n_Md hown hK hP hD hS 0 rfl rfl 7 (by decide) (hw (Cond.fieldLink "ClauseSearchModel" 50 "ClauseSearchModel" "given" "I") k_611) (fun _ h9 => h9) rfl (by decide +kernel) rfl rfl (Nat.le_of_ble_eq_true rfl) d_Md_solve_43 (fun H locs hP hD hS => ?_)
  have hP : va_P (dC, dI) vwCl [(m0, .inr (7, [.ref j0, .ref j1, .ref j2, .ref j3, .ref j4, .int 0, .int 0, .int 0, .int 0, .int 0, .int 0, .ref j5, .int 0, .ref j6, .ref j7])), (j4, .inl (ca, 401, .inl f))] H := hP
  have hD : va_D A [(m0, .inr (7, [.ref j0, .ref j1, .ref j2, .ref j3, .ref j4, .int 0, .int 0, .int 0, .int 0, .int 0, .int 0, .ref j5, .int 0, .ref j6, .ref j7])), (j4, .inl (ca, 401, .inl f))] := hD
  refine lv_aload_n hx hb d_Md_solve_46 rfl (lv_at hl 1 rfl) ?_
  refine lv_aload_n hx hb d_Md_solve_47 rfl (lv_at hl 1 rfl) ?_
  have hPc := hP.sub (ws' := [(m0, .inr (7, [.ref j0, .ref j1, .ref j2, .ref j3, .ref j4, .int 0, .int 0, .int 0, .int 0, .int 0, .int 0, .ref j5, .int 0, .ref j6, .ref j7])), (j4, .inl (ca, 401, .inl f))]) [0, 1] rfl
  have hDc := hD.sub (ws' := [(m0, .inr (7, [.ref j0, .ref j1, .ref j2, .ref j3, .ref j4, .int 0, .int 0, .int 0, .int 0, .int 0, .int 0, .ref j5, .int 0, .ref j6, .ref j7])), (j4, .inl (ca, 401, .inl f))]) [0, 1] (by decide) rfl
  have hKc := hK.sub (tys' := [(ca, .int)]) [0] rfl
  have hFc := va_free (wc := [(m0, .inr (7, [.ref j0, .ref j1, .ref j2, .ref j3, .ref j4, .int 0, .int 0, .int 0, .int 0, .int 0, .int 0, .ref j5, .int 0, .ref j6, .ref j7])), (j4, .inl (ca, 401, .inl f))]) hD hS hA [0, 1] rfl
  refine va_calli (va_runV (As := []) (rest := [.ref m0]) ⟨hx, hb, hml, hown, hw⟩ (c_Md_search_0 l dC dI m0 j0 j1 j2 j3 j4 j5 j6 j7 ca H.size f) (cb_V (C := R_Md) 0 hw k_677 k_37 k_674 k_676 k_22 rfl rfl (by decide +kernel) ⟨Nat.le_of_ble_eq_true rfl, Nat.le_of_ble_eq_true rfl⟩) ⟨fun a U g mk q => by obtain ⟨q0, q1, qP, qK, qD⟩ := q; exact ⟨q0, q1, qP, va_K.moved (u := U) (U := U.calling g mk a) (Vm.Alike.refl U.vm) qK, qD⟩, va_recv hKc hPc (ci := 7) (q0 := 0) rfl rfl, fun U hU hW => ⟨rfl, by rw [hU], by rw [hU]; exact hPc, va_K.moved hW.alike hKc, hDc.weaken (fun _ _ _ _ => trivial)⟩⟩ rfl rfl hl.1 rfl (lv_room (Nat.le_of_ble_eq_true rfl)) d_Md_solve_48 ⟨Nat.le_of_ble_eq_true rfl, Nat.le_of_ble_eq_true rfl⟩) hS (fun q _ h => hFc q h) hFc (fun r_1 u t H1 locs ht hvm hw9 hB hz1 hk1 hS => ?_)
  obtain ⟨g_2, f_3, hP1, hK1, hD1⟩ := hB
  rw [ht] at hP1
  have hK1 := va_K.moved hvm.symm hK1
  obtain ⟨hP, hD⟩ := va_join (wr := []) (w1 := [(j4, .inl (ca, 401, .inl g_2)), (m0, .inr (7, [.ref j0, .ref j1, .ref j2, .ref j3, .ref j4, .int 0, .int 0, .int 0, .int 0, .int 0, .int 0, .ref j5, .int 0, .ref j6, .ref j7]))]) hP hD [0, 1] [] rfl rfl (by decide) (by decide) hk1 hFc hP1 hD1
  generalize H1 = H at hP hS ⊢
  have hP : va_P (dC, dI) vwCl [(j4, .inl (ca, 401, .inl g_2)), (m0, .inr (7, [.ref j0, .ref j1, .ref j2, .ref j3, .ref j4, .int 0, .int 0, .int 0, .int 0, .int 0, .int 0, .ref j5, .int 0, .ref j6, .ref j7]))] H := hP
  have hD : va_D A [(j4, .inl (ca, 401, .inl g_2)), (m0, .inr (7, [.ref j0, .ref j1, .ref j2, .ref j3, .ref j4, .int 0, .int 0, .int 0, .int 0, .int 0, .int 0, .ref j5, .int 0, .ref j6, .ref j7]))] := hD
  refine W.widen (k := 0) (n := 0) (by decide) (by decide) ?_
  have hw9 : r_1 = 1 := hw9
  subst hw9
  refine va_put (D := (dC, dI)) (ci := 7) (v := .int 1) (ty := .boolean) (C := R_Md) (T := F_Md) (N := 15) hx hb hw in_Md t_Md t_Md_ok n_Md hown hK hP hD hS 1 rfl rfl 9 (by decide) (hw (Cond.fieldLink "ClauseSearchModel" 46 "ClauseSearchModel" "stands" "Z") k_613) (fun _ h9 => h9) rfl (by decide +kernel) rfl rfl (Nat.le_of_ble_eq_true rfl) d_Md_solve_51 (fun H locs hP hD hS => ?_)
  have hP : va_P (dC, dI) vwCl [(j4, .inl (ca, 401, .inl g_2)), (m0, .inr (7, [.ref j0, .ref j1, .ref j2, .ref j3, .ref j4, .int 0, .int 0, .int 0, .int 0, .int 1, .int 0, .ref j5, .int 0, .ref j6, .ref j7]))] H := hP
  have hD : va_D A [(j4, .inl (ca, 401, .inl g_2)), (m0, .inr (7, [.ref j0, .ref j1, .ref j2, .ref j3, .ref j4, .int 0, .int 0, .int 0, .int 0, .int 1, .int 0, .ref j5, .int 0, .ref j6, .ref j7]))] := hD
  refine lv_aload_n hx hb d_Md_solve_54 rfl (lv_at hl 1 rfl) ?_
  refine va_get (D := (dC, dI)) (ci := 7) (v := .int 1) (C := R_Md) (T := F_Md) (N := 15) hx hb hw in_Md hown hK hP 1 rfl rfl 9 (by decide) (hw (Cond.fieldLink "ClauseSearchModel" 46 "ClauseSearchModel" "stands" "Z") k_613) (fun _ h9 => h9) rfl d_Md_solve_55 ?_
  refine W.widen (k := 0) (n := 0) (by decide) (by decide) ?_
  exact W.zret (v := 1) hx hb hr rfl (fun t ht hW => ⟨⟨1, (), rfl, rfl, g_2, f_3, by rw [ht]; exact hP, va_K.moved hW.alike hK, hD⟩, hS.F ht⟩) hS.2.2 d_Md_solve_58
end
section
abbrev y_Lw_variables : MethodName := ⟨"ClauseSearchLaw", "variables", "(LClauseSearch;I[J)I"⟩
abbrev y_Lw_give : MethodName := ⟨"ClauseSearchLaw", "give", "(LClauseSearch;I[J)I"⟩
abbrev y_Lw_clause : MethodName := ⟨"ClauseSearchLaw", "clause", "(LClauseSearch;[J)I"⟩
abbrev y_Lw_value : MethodName := ⟨"ClauseSearchLaw", "value", "(LClauseSearch;I[J)I"⟩
abbrev y_Lw_count : MethodName := ⟨"ClauseSearchLaw", "count", "(LClauseSearch;I[J)I"⟩
theorem k_448 : (Cond.classLink "ClauseSearchLaw" 13 "java/lang/IllegalArgumentException") ∈ bg_W := bg_in 448 (by decide +kernel) (by decide +kernel)
theorem k_450 : (Cond.methodLink "ClauseSearchLaw" 7 ⟨"ClauseSearch", "variables", "(I)I"⟩) ∈ bg_W := bg_in 450 (by decide +kernel) (by decide +kernel)
theorem k_451 : (Cond.instanceMethod ⟨"ClauseSearch", "variables", "(I)I"⟩) ∈ bg_W := bg_in 451 (by decide +kernel) (by decide +kernel)
theorem k_452 : (Cond.selects "ClauseSearch" ⟨"ClauseSearch", "variables", "(I)I"⟩ ⟨"ClauseSearch", "variables", "(I)I"⟩) ∈ bg_W := bg_in 452 (by decide +kernel) (by decide +kernel)
theorem k_456 : (Cond.castable "java/lang/IllegalArgumentException" "java/lang/IllegalArgumentException") ∈ bg_W := bg_in 456 (by decide +kernel) (by decide +kernel)
theorem k_540 : (Cond.methodLink "ClauseSearchLaw" 17 ⟨"ClauseSearch", "give", "(I)I"⟩) ∈ bg_W := bg_in 540 (by decide +kernel) (by decide +kernel)
theorem k_541 : (Cond.instanceMethod ⟨"ClauseSearch", "give", "(I)I"⟩) ∈ bg_W := bg_in 541 (by decide +kernel) (by decide +kernel)
theorem k_542 : (Cond.selects "ClauseSearch" ⟨"ClauseSearch", "give", "(I)I"⟩ ⟨"ClauseSearch", "give", "(I)I"⟩) ∈ bg_W := bg_in 542 (by decide +kernel) (by decide +kernel)
theorem k_549 : (Cond.classLink "ClauseSearchLaw" 24 "java/lang/IllegalStateException") ∈ bg_W := bg_in 549 (by decide +kernel) (by decide +kernel)
theorem k_550 : (Cond.methodLink "ClauseSearchLaw" 20 ⟨"ClauseSearch", "clause", "()I"⟩) ∈ bg_W := bg_in 550 (by decide +kernel) (by decide +kernel)
theorem k_551 : (Cond.instanceMethod ⟨"ClauseSearch", "clause", "()I"⟩) ∈ bg_W := bg_in 551 (by decide +kernel) (by decide +kernel)
theorem k_552 : (Cond.selects "ClauseSearch" ⟨"ClauseSearch", "clause", "()I"⟩ ⟨"ClauseSearch", "clause", "()I"⟩) ∈ bg_W := bg_in 552 (by decide +kernel) (by decide +kernel)
theorem k_556 : (Cond.castable "java/lang/IllegalStateException" "java/lang/IllegalStateException") ∈ bg_W := bg_in 556 (by decide +kernel) (by decide +kernel)
theorem k_583 : (Cond.methodLink "ClauseSearchLaw" 26 ⟨"ClauseSearch", "value", "(I)Z"⟩) ∈ bg_W := bg_in 583 (by decide +kernel) (by decide +kernel)
theorem k_584 : (Cond.instanceMethod ⟨"ClauseSearch", "value", "(I)Z"⟩) ∈ bg_W := bg_in 584 (by decide +kernel) (by decide +kernel)
theorem k_585 : (Cond.selects "ClauseSearch" ⟨"ClauseSearch", "value", "(I)Z"⟩ ⟨"ClauseSearch", "value", "(I)Z"⟩) ∈ bg_W := bg_in 585 (by decide +kernel) (by decide +kernel)
theorem k_592 : (Cond.methodLink "ClauseSearchLaw" 30 ⟨"ClauseSearch", "count", "(I)I"⟩) ∈ bg_W := bg_in 592 (by decide +kernel) (by decide +kernel)
theorem k_593 : (Cond.instanceMethod ⟨"ClauseSearch", "count", "(I)I"⟩) ∈ bg_W := bg_in 593 (by decide +kernel) (by decide +kernel)
theorem k_594 : (Cond.selects "ClauseSearch" ⟨"ClauseSearch", "count", "(I)I"⟩ ⟨"ClauseSearch", "count", "(I)I"⟩) ∈ bg_W := bg_in 594 (by decide +kernel) (by decide +kernel)
theorem d_Lw_variables_0 : decode method_3_code 0 = .ok (.aload_n 2, 1) := by decide +kernel
theorem d_Lw_variables_1 : decode method_3_code 1 = .ok (.iconst 0, 1) := by decide +kernel
theorem d_Lw_variables_2 : decode method_3_code 2 = .ok (.aload_n 0, 1) := by decide +kernel
theorem d_Lw_variables_3 : decode method_3_code 3 = .ok (.iload_n 1, 1) := by decide +kernel
theorem d_Lw_variables_4 : decode method_3_code 4 = .ok (.invokevirtual 7, 3) := by decide +kernel
theorem d_Lw_variables_7 : decode method_3_code 7 = .ok (.i2l, 1) := by decide +kernel
theorem d_Lw_variables_8 : decode method_3_code 8 = .ok (.lastore, 1) := by decide +kernel
theorem d_Lw_variables_9 : decode method_3_code 9 = .ok (.goto 9, 3) := by decide +kernel
theorem d_Lw_variables_18 : decode method_3_code 18 = .ok (.iconst 0, 1) := by decide +kernel
theorem d_Lw_variables_19 : decode method_3_code 19 = .ok (.ireturn, 1) := by decide +kernel
theorem d_Lw_variables_12 : decode method_3_code 12 = .ok (.astore_n 3, 1) := by decide +kernel
theorem d_Lw_variables_13 : decode method_3_code 13 = .ok (.iconst 1, 1) := by decide +kernel
theorem d_Lw_variables_14 : decode method_3_code 14 = .ok (.ireturn, 1) := by decide +kernel
theorem d_Lw_give_0 : decode method_4_code 0 = .ok (.aload_n 2, 1) := by decide +kernel
theorem d_Lw_give_1 : decode method_4_code 1 = .ok (.iconst 0, 1) := by decide +kernel
theorem d_Lw_give_2 : decode method_4_code 2 = .ok (.aload_n 0, 1) := by decide +kernel
theorem d_Lw_give_3 : decode method_4_code 3 = .ok (.iload_n 1, 1) := by decide +kernel
theorem d_Lw_give_4 : decode method_4_code 4 = .ok (.invokevirtual 17, 3) := by decide +kernel
theorem d_Lw_give_12 : decode method_4_code 12 = .ok (.astore_n 3, 1) := by decide +kernel
theorem d_Lw_give_13 : decode method_4_code 13 = .ok (.iconst 1, 1) := by decide +kernel
theorem d_Lw_give_14 : decode method_4_code 14 = .ok (.ireturn, 1) := by decide +kernel
theorem d_Lw_clause_0 : decode method_5_code 0 = .ok (.aload_n 1, 1) := by decide +kernel
theorem d_Lw_clause_1 : decode method_5_code 1 = .ok (.iconst 0, 1) := by decide +kernel
theorem d_Lw_clause_2 : decode method_5_code 2 = .ok (.aload_n 0, 1) := by decide +kernel
theorem d_Lw_clause_3 : decode method_5_code 3 = .ok (.invokevirtual 20, 3) := by decide +kernel
theorem d_Lw_clause_11 : decode method_5_code 11 = .ok (.astore_n 2, 1) := by decide +kernel
theorem d_Lw_clause_12 : decode method_5_code 12 = .ok (.iconst 1, 1) := by decide +kernel
theorem d_Lw_clause_13 : decode method_5_code 13 = .ok (.ireturn, 1) := by decide +kernel
theorem d_Lw_value_0 : decode method_6_code 0 = .ok (.aload_n 2, 1) := by decide +kernel
theorem d_Lw_value_1 : decode method_6_code 1 = .ok (.iconst 0, 1) := by decide +kernel
theorem d_Lw_value_2 : decode method_6_code 2 = .ok (.aload_n 0, 1) := by decide +kernel
theorem d_Lw_value_3 : decode method_6_code 3 = .ok (.iload_n 1, 1) := by decide +kernel
theorem d_Lw_value_4 : decode method_6_code 4 = .ok (.invokevirtual 26, 3) := by decide +kernel
theorem d_Lw_value_19 : decode method_6_code 19 = .ok (.astore_n 3, 1) := by decide +kernel
theorem d_Lw_value_20 : decode method_6_code 20 = .ok (.iconst 1, 1) := by decide +kernel
theorem d_Lw_value_21 : decode method_6_code 21 = .ok (.ireturn, 1) := by decide +kernel
theorem d_Lw_count_0 : decode method_7_code 0 = .ok (.aload_n 2, 1) := by decide +kernel
theorem d_Lw_count_1 : decode method_7_code 1 = .ok (.iconst 0, 1) := by decide +kernel
theorem d_Lw_count_2 : decode method_7_code 2 = .ok (.aload_n 0, 1) := by decide +kernel
theorem d_Lw_count_3 : decode method_7_code 3 = .ok (.iload_n 1, 1) := by decide +kernel
theorem d_Lw_count_4 : decode method_7_code 4 = .ok (.invokevirtual 30, 3) := by decide +kernel
theorem d_Lw_count_12 : decode method_7_code 12 = .ok (.astore_n 3, 1) := by decide +kernel
theorem d_Lw_count_13 : decode method_7_code 13 = .ok (.iconst 1, 1) := by decide +kernel
theorem d_Lw_count_14 : decode method_7_code 14 = .ok (.ireturn, 1) := by decide +kernel
theorem d_Lw_count_7 : decode method_7_code 7 = .ok (.i2l, 1) := by decide +kernel
theorem d_Lw_count_8 : decode method_7_code 8 = .ok (.lastore, 1) := by decide +kernel
theorem d_Lw_count_9 : decode method_7_code 9 = .ok (.goto 6, 3) := by decide +kernel
theorem d_Lw_count_15 : decode method_7_code 15 = .ok (.iconst 0, 1) := by decide +kernel
theorem d_Lw_count_16 : decode method_7_code 16 = .ok (.ireturn, 1) := by decide +kernel
set_option maxHeartbeats 4000000 in
set_option maxRecDepth 100000 in
/-- the helper of variables, where it answers -/
theorem c_Lw_variables (l : Launch) (dC : Nat → ClassId) (dI : Nat → Nat → Nat) (h0 : Nat) (b0 : Nat) (b1 : Nat) (b2 : Nat) (b3 : Nat) (o0 : Nat) (cl : ClassId) (sz : Nat) (rs : Int32) (vc : Int32) (wv : Int32) (bw : Int32) (p0 : Int32) (fo : Nat → Int64) (h1 : ¬ p0 < 1) (h2 : p0 ≤ 400) (h3 : vc + p0 ≤ 400) : Met l y_Lw_variables (wh y_Lw_variables method_3_code 4 (some .int) [(0, 9, 12, 13), (0, 9, 15, 15)]) ({ frames := 1, cells := 0, slots := 0, locals := 21 }) (va_Pc [.ref h0, .int p0, .ref o0] (fun U => U.heap.size = sz ∧ va_P (dC, dI) vwCl [(h0, .inr (6, [.ref b0, .ref b1, .ref b2, .ref b3, .int rs, .int vc, .int wv, .int bw])), (o0, .inl (cl, 1, .inr (.inl fo)))] U.heap ∧ va_K (dC, dI) vwCl [(cl, .long)] U ∧ va_D (fun _ => True) [(h0, .inr (6, [.ref b0, .ref b1, .ref b2, .ref b3, .int rs, .int vc, .int wv, .int bw])), (o0, .inl (cl, 1, .inr (.inl fo)))])) (va_Qi (fun (r : Int32) (_ : Unit) => r = 0) (fun (_ : Unit) t => va_P (dC, dI) vwCl [(o0, .inl (cl, 1, .inr (.inl (vp_updL fo ((0 : Int32).toNatClampNeg) ((vc + p0 : Int32).toInt64))))), (h0, .inr (6, [.ref b0, .ref b1, .ref b2, .ref b3, .int rs, .int (vc + p0), .int 0, .int bw]))] t.heap ∧ va_K (dC, dI) vwCl [(cl, .long)] t ∧ va_D (va_A [(h0, .inr (6, [.ref b0, .ref b1, .ref b2, .ref b3, .int rs, .int vc, .int wv, .int bw])), (o0, .inl (cl, 1, .inr (.inl fo)))] sz) [(o0, .inl (cl, 1, .inr (.inl (vp_updL fo ((0 : Int32).toNatClampNeg) ((vc + p0 : Int32).toInt64))))), (h0, .inr (6, [.ref b0, .ref b1, .ref b2, .ref b3, .int rs, .int (vc + p0), .int 0, .int bw]))]) (va_A [(h0, .inr (6, [.ref b0, .ref b1, .ref b2, .ref b3, .int rs, .int vc, .int wv, .int bw])), (o0, .inl (cl, 1, .inr (.inl fo)))] sz)) 0 0 (va_A [(h0, .inr (6, [.ref b0, .ref b1, .ref b2, .ref b3, .int rs, .int vc, .int wv, .int bw])), (o0, .inl (cl, 1, .inr (.inl fo)))] sz) := by
  refine va_MetW (hh := [(0, 9, 12, 13), (0, 9, 15, 15)]) (cc := method_3_code) (maxL := 4) (ret := (some .int)) (by decide) rfl ?_
  intro p e s m args below meth c s₁ B hml hv
  obtain ⟨rfl, hsz, hP, hK, hD0⟩ := hv
  have hx := B.exec
  have hb := B.bytes
  have hr := B.returns
  have hw : ∀ w ∈ bg_W, w.before #[Value.ref h0, Value.int p0, Value.ref o0] s = true := fun w h => atoms_spec (ws := (wh y_Lw_variables method_3_code 4 (some .int) [(0, 9, 12, 13), (0, 9, 15, 15)])) B.pre w (List.mem_cons_of_mem _ h)
  have hown : s.vm.findClass R_Lw = some m.cls := findClass_of_methodNamed B.named
  have hlocks := B.notSynchronized
  subst hsz
  have hD := hD0.self (sz := s.heap.size)
  generalize hAe : va_A [(h0, .inr (6, [.ref b0, .ref b1, .ref b2, .ref b3, .int rs, .int vc, .int wv, .int bw])), (o0, .inl (cl, 1, .inr (.inl fo)))] s.heap.size = A at hD ⊢
  have hA : ∀ q : Nat, s.heap.size ≤ q → A q := fun q h => by rw [← hAe]; exact Or.inr h
  have hS : va_S A s.heap s.heap [] := va_S.rf
  have hP : va_P (dC, dI) vwCl [(h0, .inr (6, [.ref b0, .ref b1, .ref b2, .ref b3, .int rs, .int vc, .int wv, .int bw])), (o0, .inl (cl, 1, .inr (.inl fo)))] s.heap := hP
  have hl := lv_entry ([.ref h0, .int p0, .ref o0]) (n := 4) (Nat.le_of_ble_eq_true rfl)
  rw [lg_entry_eq]
  generalize (lg_sl ([.ref h0, .int p0, .ref o0]) ++ List.replicate (4 - (lg_sl ([.ref h0, .int p0, .ref o0])).length) Slot.unset).toArray = ls at hl ⊢
  have hl : lv_has ls 4 [(0, .ref h0), (1, .int p0), (2, .ref o0)] := hl
  obtain ⟨H, hH⟩ : ∃ H : Heap, H = s.heap := ⟨_, rfl⟩
  rw [← hH] at hP
  have hS : va_S A s.heap H [] := by rw [hH]; exact va_S.rf
  show W p l e _ s m _ below meth c s.heap [] 0 0 _ _
  rw [← hH]
  have hTab := th_table B (atoms_spec (ws := (wh y_Lw_variables method_3_code 4 (some .int) [(0, 9, 12, 13), (0, 9, 15, 15)])) B.pre _ List.mem_cons_self)
  refine lv_aload_n hx hb d_Lw_variables_0 rfl (lv_at hl 2 rfl) ?_
  refine lv_iconst (v := 0) hx hb d_Lw_variables_1 (by decide) ?_
  refine lv_aload_n hx hb d_Lw_variables_2 rfl (lv_at hl 0 rfl) ?_
  refine lv_iload_n hx hb d_Lw_variables_3 rfl (lv_at hl 1 rfl) ?_
  have hPc := hP.sub (ws' := [(h0, .inr (6, [.ref b0, .ref b1, .ref b2, .ref b3, .int rs, .int vc, .int wv, .int bw]))]) [0] rfl
  have hDc := hD.sub (ws' := [(h0, .inr (6, [.ref b0, .ref b1, .ref b2, .ref b3, .int rs, .int vc, .int wv, .int bw]))]) [0] (by decide) rfl
  have hKc := hK.sub (tys' := []) [] rfl
  have hFc := va_free (wc := [(h0, .inr (6, [.ref b0, .ref b1, .ref b2, .ref b3, .int rs, .int vc, .int wv, .int bw]))]) hD hS hA [0] rfl
  refine va_calli (va_runV (As := [.int p0]) (rest := [.int 0, .ref o0]) ⟨hx, hb, hml, hown, hw⟩ (c_Cs_variables l dC dI h0 b0 b1 b2 b3 H.size rs vc wv bw p0 h1 h2 h3) (cb_V (C := R_Cs) 1 hw k_453 k_29 k_450 k_451 k_452 rfl rfl (by decide +kernel) ⟨Nat.le_of_ble_eq_true rfl, Nat.le_of_ble_eq_true rfl⟩) ⟨fun a U g mk q => by obtain ⟨q0, q1, qP, qK, qD⟩ := q; exact ⟨q0, q1, qP, va_K.moved (u := U) (U := U.calling g mk a) (Vm.Alike.refl U.vm) qK, qD⟩, va_recv hKc hPc (ci := 6) (q0 := 0) rfl rfl, fun U hU hW => ⟨rfl, by rw [hU], by rw [hU]; exact hPc, va_K.moved hW.alike hKc, hDc.weaken (fun _ _ _ _ => trivial)⟩⟩ rfl rfl hl.1 rfl (lv_room (Nat.le_of_ble_eq_true rfl)) d_Lw_variables_4 ⟨Nat.le_of_ble_eq_true rfl, Nat.le_of_ble_eq_true rfl⟩) hS (fun q _ h => hFc q h) hFc (fun r_1 u t H1 locs ht hvm hw9 hB hz1 hk1 hS => ?_)
  obtain ⟨hP1, hK1, hD1⟩ := hB
  rw [ht] at hP1
  have hK1 := va_K.moved hvm.symm hK1
  obtain ⟨hP, hD⟩ := va_join (wr := [(o0, .inl (cl, 1, .inr (.inl fo)))]) (w1 := [(h0, .inr (6, [.ref b0, .ref b1, .ref b2, .ref b3, .int rs, .int (vc + p0), .int 0, .int bw]))]) hP hD [0] [1] rfl rfl (by decide) (by decide) hk1 hFc hP1 hD1
  generalize H1 = H at hP hS ⊢
  have hP : va_P (dC, dI) vwCl [(o0, .inl (cl, 1, .inr (.inl fo))), (h0, .inr (6, [.ref b0, .ref b1, .ref b2, .ref b3, .int rs, .int (vc + p0), .int 0, .int bw]))] H := hP
  have hD : va_D A [(o0, .inl (cl, 1, .inr (.inl fo))), (h0, .inr (6, [.ref b0, .ref b1, .ref b2, .ref b3, .int rs, .int (vc + p0), .int 0, .int bw]))] := hD
  refine W.widen (k := 0) (n := 0) (by decide) (by decide) ?_
  have hw9 : r_1 = vc + p0 := hw9
  subst hw9
  refine lv_i2l (v := (vc + p0 : Int32).toInt64) hx hb d_Lw_variables_7 rfl ?_
  refine va_last hx hb hK hP hD hS 0 0 rfl rfl (by unfold vp_in; decide) d_Lw_variables_8 (fun H locs hP hD hS => ?_)
  have hP : va_P (dC, dI) vwCl [(o0, .inl (cl, 1, .inr (.inl (vp_updL fo ((0 : Int32).toNatClampNeg) ((vc + p0 : Int32).toInt64))))), (h0, .inr (6, [.ref b0, .ref b1, .ref b2, .ref b3, .int rs, .int (vc + p0), .int 0, .int bw]))] H := hP
  have hD : va_D A [(o0, .inl (cl, 1, .inr (.inl (vp_updL fo ((0 : Int32).toNatClampNeg) ((vc + p0 : Int32).toInt64))))), (h0, .inr (6, [.ref b0, .ref b1, .ref b2, .ref b3, .int rs, .int (vc + p0), .int 0, .int bw]))] := hD
  refine lv_goto (tgt := 18) hx hb d_Lw_variables_9 (by decide) ?_
  refine lv_iconst (v := 0) hx hb d_Lw_variables_18 (by decide) ?_
  refine W.widen (k := 0) (n := 0) (by decide) (by decide) ?_
  exact W.iret (v := 0) hx hb hr (fun t ht hW => ⟨⟨0, (), rfl, rfl, by rw [ht]; exact hP, va_K.moved hW.alike hK, hD⟩, hS.F ht⟩) hS.2.2 d_Lw_variables_19

set_option maxHeartbeats 4000000 in
set_option maxRecDepth 100000 in
/-- the helper of variables, where n is refused -/
theorem c_Lw_variables_1 (l : Launch) (hfl : l.flags = pinnedFlags ++ [noTraceFlag]) (dC : Nat → ClassId) (dI : Nat → Nat → Nat) (h0 : Nat) (b0 : Nat) (b1 : Nat) (b2 : Nat) (b3 : Nat) (o0 : Nat) (cl : ClassId) (sz lim : Nat) (rs : Int32) (vc : Int32) (wv : Int32) (bw : Int32) (p0 : Int32) (fo : Nat → Int64) (h : p0 < 1 ∨ 400 < p0) : Met l y_Lw_variables (wh y_Lw_variables method_3_code 4 (some .int) [(0, 9, 12, 13), (0, 9, 15, 15)]) ({ frames := 7, cells := 1, slots := 6, locals := 111 }) (va_Pc [.ref h0, .int p0, .ref o0] (fun U => U.heap.size = sz ∧ va_P (dC, dI) vwCl [(h0, .inr (6, [.ref b0, .ref b1, .ref b2, .ref b3, .int rs, .int vc, .int wv, .int bw])), (o0, .inl (cl, 1, .inr (.inl fo)))] U.heap ∧ va_K (dC, dI) vwCl [(cl, .long)] U ∧ va_D (fun _ => True) [(h0, .inr (6, [.ref b0, .ref b1, .ref b2, .ref b3, .int rs, .int vc, .int wv, .int bw])), (o0, .inl (cl, 1, .inr (.inl fo)))] ∧ tw_Z U U.heap lim)) (va_Qi (fun (r : Int32) (_ : Unit) => r = 1) (fun (_ : Unit) t => va_P (dC, dI) vwCl [(h0, .inr (6, [.ref b0, .ref b1, .ref b2, .ref b3, .int rs, .int vc, .int wv, .int bw])), (o0, .inl (cl, 1, .inr (.inl fo)))] t.heap ∧ va_K (dC, dI) vwCl [(cl, .long)] t ∧ va_D (va_A [(h0, .inr (6, [.ref b0, .ref b1, .ref b2, .ref b3, .int rs, .int vc, .int wv, .int bw])), (o0, .inl (cl, 1, .inr (.inl fo)))] sz) [(h0, .inr (6, [.ref b0, .ref b1, .ref b2, .ref b3, .int rs, .int vc, .int wv, .int bw])), (o0, .inl (cl, 1, .inr (.inl fo)))]) (va_A [(h0, .inr (6, [.ref b0, .ref b1, .ref b2, .ref b3, .int rs, .int vc, .int wv, .int bw])), (o0, .inl (cl, 1, .inr (.inl fo)))] sz)) 1 6 (va_A [(h0, .inr (6, [.ref b0, .ref b1, .ref b2, .ref b3, .int rs, .int vc, .int wv, .int bw])), (o0, .inl (cl, 1, .inr (.inl fo)))] sz) := by
  refine va_MetW (hh := [(0, 9, 12, 13), (0, 9, 15, 15)]) (cc := method_3_code) (maxL := 4) (ret := (some .int)) (by decide) rfl ?_
  intro p e s m args below meth c s₁ B hml hv
  obtain ⟨rfl, hsz, hP, hK, hD0, hz⟩ := hv
  have hx := B.exec
  have hb := B.bytes
  have hr := B.returns
  have hw : ∀ w ∈ bg_W, w.before #[Value.ref h0, Value.int p0, Value.ref o0] s = true := fun w h => atoms_spec (ws := (wh y_Lw_variables method_3_code 4 (some .int) [(0, 9, 12, 13), (0, 9, 15, 15)])) B.pre w (List.mem_cons_of_mem _ h)
  have hown : s.vm.findClass R_Lw = some m.cls := findClass_of_methodNamed B.named
  have hlocks := B.notSynchronized
  subst hsz
  have hD := hD0.self (sz := s.heap.size)
  generalize hAe : va_A [(h0, .inr (6, [.ref b0, .ref b1, .ref b2, .ref b3, .int rs, .int vc, .int wv, .int bw])), (o0, .inl (cl, 1, .inr (.inl fo)))] s.heap.size = A at hD ⊢
  have hA : ∀ q : Nat, s.heap.size ≤ q → A q := fun q h => by rw [← hAe]; exact Or.inr h
  have hS : va_S A s.heap s.heap [] := va_S.rf
  have hP : va_P (dC, dI) vwCl [(h0, .inr (6, [.ref b0, .ref b1, .ref b2, .ref b3, .int rs, .int vc, .int wv, .int bw])), (o0, .inl (cl, 1, .inr (.inl fo)))] s.heap := hP
  have hl := lv_entry ([.ref h0, .int p0, .ref o0]) (n := 4) (Nat.le_of_ble_eq_true rfl)
  rw [lg_entry_eq]
  generalize (lg_sl ([.ref h0, .int p0, .ref o0]) ++ List.replicate (4 - (lg_sl ([.ref h0, .int p0, .ref o0])).length) Slot.unset).toArray = ls at hl ⊢
  have hl : lv_has ls 4 [(0, .ref h0), (1, .int p0), (2, .ref o0)] := hl
  obtain ⟨H, hH⟩ : ∃ H : Heap, H = s.heap := ⟨_, rfl⟩
  rw [← hH] at hP
  have hS : va_S A s.heap H [] := by rw [hH]; exact va_S.rf
  show W p l e _ s m _ below meth c s.heap [] 0 0 _ _
  rw [← hH]
  have hTab := th_table B (atoms_spec (ws := (wh y_Lw_variables method_3_code 4 (some .int) [(0, 9, 12, 13), (0, 9, 15, 15)])) B.pre _ List.mem_cons_self)
  refine lv_aload_n hx hb d_Lw_variables_0 rfl (lv_at hl 2 rfl) ?_
  refine lv_iconst (v := 0) hx hb d_Lw_variables_1 (by decide) ?_
  refine lv_aload_n hx hb d_Lw_variables_2 rfl (lv_at hl 0 rfl) ?_
  refine lv_iload_n hx hb d_Lw_variables_3 rfl (lv_at hl 1 rfl) ?_
  have hPc := hP.sub (ws' := [(h0, .inr (6, [.ref b0, .ref b1, .ref b2, .ref b3, .int rs, .int vc, .int wv, .int bw]))]) [0] rfl
  have hDc := hD.sub (ws' := [(h0, .inr (6, [.ref b0, .ref b1, .ref b2, .ref b3, .int rs, .int vc, .int wv, .int bw]))]) [0] (by decide) rfl
  have hKc := hK.sub (tys' := []) [] rfl
  refine tw_call (As := [.int p0]) (rest := [.int 0, .ref o0]) ⟨hx, hb, hml, hown, hw⟩ (x_Cs_variables_1 l hfl dC dI h0 b0 b1 b2 b3 H.size lim rs vc wv bw p0 h) (cb_V (C := R_Cs) 1 hw k_453 k_29 k_450 k_451 k_452 rfl rfl (by decide +kernel) ⟨Nat.le_of_ble_eq_true rfl, Nat.le_of_ble_eq_true rfl⟩) ⟨fun a U g mk q => by obtain ⟨q0, q1, qP, qK, qD, qZ⟩ := q; exact ⟨q0, q1, qP, va_K.moved (u := U) (U := U.calling g mk a) (Vm.Alike.refl U.vm) qK, qD, tw_Z.moved (u := U) (U := U.calling g mk a) (Vm.Alike.refl U.vm) qZ⟩, va_recv hKc hPc (ci := 6) (q0 := 0) rfl rfl, fun U hU hW => ⟨rfl, by rw [hU], by rw [hU]; exact hPc, va_K.moved hW.alike hKc, hDc.weaken (fun _ _ _ _ => trivial), by rw [hU, hH]; exact hz.moved hW.alike⟩⟩ rfl hl.1 rfl (lv_room (Nat.le_of_ble_eq_true rfl)) d_Lw_variables_4 ⟨Nat.le_of_ble_eq_true rfl, Nat.le_of_ble_eq_true rfl⟩ (x := ⟨0, 9, 12, 13⟩) (more := [⟨0, 9, 15, 15⟩]) hTab (by decide) (by decide) (hw (Cond.classLink "ClauseSearchLaw" 13 "java/lang/IllegalArgumentException") k_448) (hw (Cond.castable "java/lang/IllegalArgumentException" "java/lang/IllegalArgumentException") k_456) (fun a9 H1 hle9 hk9 => ?_)
  have hP : va_P (dC, dI) vwCl [(h0, .inr (6, [.ref b0, .ref b1, .ref b2, .ref b3, .int rs, .int vc, .int wv, .int bw])), (o0, .inl (cl, 1, .inr (.inl fo)))] H1 := fun k q h => (hP k q h).kept (hk9 q.1 (hP k q h).lt)
  have hS : va_S A s.heap H1 [] := ⟨Nat.le_trans hS.1 hle9, fun q hq hA9 => (hk9 q (Nat.lt_of_lt_of_le hq hS.1)).trans (hS.2.1 q hq hA9), hS.2.2⟩
  generalize H1 = H at hP hS ⊢
  refine W.widen (k := 1) (n := 6) (by decide) (by decide) ?_
  refine lv_astore_n (lv' := [(3, .ref a9), (0, .ref h0), (1, .int p0), (2, .ref o0)]) hx hb d_Lw_variables_12 rfl hl (by decide) rfl (fun ls hl => ?_)
  refine lv_iconst (v := 1) hx hb d_Lw_variables_13 (by decide) ?_
  refine W.widen (k := 1) (n := 6) (by decide) (by decide) ?_
  exact W.iret (v := 1) hx hb hr (fun t ht hW => ⟨⟨1, (), rfl, rfl, by rw [ht]; exact hP, va_K.moved hW.alike hK, hD⟩, hS.F ht⟩) hS.2.2 d_Lw_variables_14

set_option maxHeartbeats 4000000 in
set_option maxRecDepth 100000 in
/-- the helper of give, where l is refused -/
theorem c_Lw_give_1 (l : Launch) (hfl : l.flags = pinnedFlags ++ [noTraceFlag]) (dC : Nat → ClassId) (dI : Nat → Nat → Nat) (h0 : Nat) (b0 : Nat) (b1 : Nat) (b2 : Nat) (b3 : Nat) (o0 : Nat) (cl : ClassId) (sz lim : Nat) (rs : Int32) (vc : Int32) (wv : Int32) (bw : Int32) (p0 : Int32) (fo : Nat → Int64) (h : p0 = 0 ∨ vc < p0 ∨ p0 < -vc) : Met l y_Lw_give (wh y_Lw_give method_4_code 4 (some .int) [(0, 9, 12, 13), (0, 9, 15, 15)]) ({ frames := 7, cells := 1, slots := 6, locals := 111 }) (va_Pc [.ref h0, .int p0, .ref o0] (fun U => U.heap.size = sz ∧ va_P (dC, dI) vwCl [(h0, .inr (6, [.ref b0, .ref b1, .ref b2, .ref b3, .int rs, .int vc, .int wv, .int bw])), (o0, .inl (cl, 1, .inr (.inl fo)))] U.heap ∧ va_K (dC, dI) vwCl [(cl, .long)] U ∧ va_D (fun _ => True) [(h0, .inr (6, [.ref b0, .ref b1, .ref b2, .ref b3, .int rs, .int vc, .int wv, .int bw])), (o0, .inl (cl, 1, .inr (.inl fo)))] ∧ tw_Z U U.heap lim)) (va_Qi (fun (r : Int32) (_ : Unit) => r = 1) (fun (_ : Unit) t => va_P (dC, dI) vwCl [(h0, .inr (6, [.ref b0, .ref b1, .ref b2, .ref b3, .int rs, .int vc, .int wv, .int bw])), (o0, .inl (cl, 1, .inr (.inl fo)))] t.heap ∧ va_K (dC, dI) vwCl [(cl, .long)] t ∧ va_D (va_A [(h0, .inr (6, [.ref b0, .ref b1, .ref b2, .ref b3, .int rs, .int vc, .int wv, .int bw])), (o0, .inl (cl, 1, .inr (.inl fo)))] sz) [(h0, .inr (6, [.ref b0, .ref b1, .ref b2, .ref b3, .int rs, .int vc, .int wv, .int bw])), (o0, .inl (cl, 1, .inr (.inl fo)))]) (va_A [(h0, .inr (6, [.ref b0, .ref b1, .ref b2, .ref b3, .int rs, .int vc, .int wv, .int bw])), (o0, .inl (cl, 1, .inr (.inl fo)))] sz)) 1 6 (va_A [(h0, .inr (6, [.ref b0, .ref b1, .ref b2, .ref b3, .int rs, .int vc, .int wv, .int bw])), (o0, .inl (cl, 1, .inr (.inl fo)))] sz) := by
  refine va_MetW (hh := [(0, 9, 12, 13), (0, 9, 15, 15)]) (cc := method_4_code) (maxL := 4) (ret := (some .int)) (by decide) rfl ?_
  intro p e s m args below meth c s₁ B hml hv
  obtain ⟨rfl, hsz, hP, hK, hD0, hz⟩ := hv
  have hx := B.exec
  have hb := B.bytes
  have hr := B.returns
  have hw : ∀ w ∈ bg_W, w.before #[Value.ref h0, Value.int p0, Value.ref o0] s = true := fun w h => atoms_spec (ws := (wh y_Lw_give method_4_code 4 (some .int) [(0, 9, 12, 13), (0, 9, 15, 15)])) B.pre w (List.mem_cons_of_mem _ h)
  have hown : s.vm.findClass R_Lw = some m.cls := findClass_of_methodNamed B.named
  have hlocks := B.notSynchronized
  subst hsz
  have hD := hD0.self (sz := s.heap.size)
  generalize hAe : va_A [(h0, .inr (6, [.ref b0, .ref b1, .ref b2, .ref b3, .int rs, .int vc, .int wv, .int bw])), (o0, .inl (cl, 1, .inr (.inl fo)))] s.heap.size = A at hD ⊢
  have hA : ∀ q : Nat, s.heap.size ≤ q → A q := fun q h => by rw [← hAe]; exact Or.inr h
  have hS : va_S A s.heap s.heap [] := va_S.rf
  have hP : va_P (dC, dI) vwCl [(h0, .inr (6, [.ref b0, .ref b1, .ref b2, .ref b3, .int rs, .int vc, .int wv, .int bw])), (o0, .inl (cl, 1, .inr (.inl fo)))] s.heap := hP
  have hl := lv_entry ([.ref h0, .int p0, .ref o0]) (n := 4) (Nat.le_of_ble_eq_true rfl)
  rw [lg_entry_eq]
  generalize (lg_sl ([.ref h0, .int p0, .ref o0]) ++ List.replicate (4 - (lg_sl ([.ref h0, .int p0, .ref o0])).length) Slot.unset).toArray = ls at hl ⊢
  have hl : lv_has ls 4 [(0, .ref h0), (1, .int p0), (2, .ref o0)] := hl
  obtain ⟨H, hH⟩ : ∃ H : Heap, H = s.heap := ⟨_, rfl⟩
  rw [← hH] at hP
  have hS : va_S A s.heap H [] := by rw [hH]; exact va_S.rf
  show W p l e _ s m _ below meth c s.heap [] 0 0 _ _
  rw [← hH]
  have hTab := th_table B (atoms_spec (ws := (wh y_Lw_give method_4_code 4 (some .int) [(0, 9, 12, 13), (0, 9, 15, 15)])) B.pre _ List.mem_cons_self)
  refine lv_aload_n hx hb d_Lw_give_0 rfl (lv_at hl 2 rfl) ?_
  refine lv_iconst (v := 0) hx hb d_Lw_give_1 (by decide) ?_
  refine lv_aload_n hx hb d_Lw_give_2 rfl (lv_at hl 0 rfl) ?_
  refine lv_iload_n hx hb d_Lw_give_3 rfl (lv_at hl 1 rfl) ?_
  have hPc := hP.sub (ws' := [(h0, .inr (6, [.ref b0, .ref b1, .ref b2, .ref b3, .int rs, .int vc, .int wv, .int bw]))]) [0] rfl
  have hDc := hD.sub (ws' := [(h0, .inr (6, [.ref b0, .ref b1, .ref b2, .ref b3, .int rs, .int vc, .int wv, .int bw]))]) [0] (by decide) rfl
  have hKc := hK.sub (tys' := []) [] rfl
  refine tw_call (As := [.int p0]) (rest := [.int 0, .ref o0]) ⟨hx, hb, hml, hown, hw⟩ (x_Cs_give_1 l hfl dC dI h0 b0 b1 b2 b3 H.size lim rs vc wv bw p0 h) (cb_V (C := R_Cs) 1 hw k_543 k_29 k_540 k_541 k_542 rfl rfl (by decide +kernel) ⟨Nat.le_of_ble_eq_true rfl, Nat.le_of_ble_eq_true rfl⟩) ⟨fun a U g mk q => by obtain ⟨q0, q1, qP, qK, qD, qZ⟩ := q; exact ⟨q0, q1, qP, va_K.moved (u := U) (U := U.calling g mk a) (Vm.Alike.refl U.vm) qK, qD, tw_Z.moved (u := U) (U := U.calling g mk a) (Vm.Alike.refl U.vm) qZ⟩, va_recv hKc hPc (ci := 6) (q0 := 0) rfl rfl, fun U hU hW => ⟨rfl, by rw [hU], by rw [hU]; exact hPc, va_K.moved hW.alike hKc, hDc.weaken (fun _ _ _ _ => trivial), by rw [hU, hH]; exact hz.moved hW.alike⟩⟩ rfl hl.1 rfl (lv_room (Nat.le_of_ble_eq_true rfl)) d_Lw_give_4 ⟨Nat.le_of_ble_eq_true rfl, Nat.le_of_ble_eq_true rfl⟩ (x := ⟨0, 9, 12, 13⟩) (more := [⟨0, 9, 15, 15⟩]) hTab (by decide) (by decide) (hw (Cond.classLink "ClauseSearchLaw" 13 "java/lang/IllegalArgumentException") k_448) (hw (Cond.castable "java/lang/IllegalArgumentException" "java/lang/IllegalArgumentException") k_456) (fun a9 H1 hle9 hk9 => ?_)
  have hP : va_P (dC, dI) vwCl [(h0, .inr (6, [.ref b0, .ref b1, .ref b2, .ref b3, .int rs, .int vc, .int wv, .int bw])), (o0, .inl (cl, 1, .inr (.inl fo)))] H1 := fun k q h => (hP k q h).kept (hk9 q.1 (hP k q h).lt)
  have hS : va_S A s.heap H1 [] := ⟨Nat.le_trans hS.1 hle9, fun q hq hA9 => (hk9 q (Nat.lt_of_lt_of_le hq hS.1)).trans (hS.2.1 q hq hA9), hS.2.2⟩
  generalize H1 = H at hP hS ⊢
  refine W.widen (k := 1) (n := 6) (by decide) (by decide) ?_
  refine lv_astore_n (lv' := [(3, .ref a9), (0, .ref h0), (1, .int p0), (2, .ref o0)]) hx hb d_Lw_give_12 rfl hl (by decide) rfl (fun ls hl => ?_)
  refine lv_iconst (v := 1) hx hb d_Lw_give_13 (by decide) ?_
  refine W.widen (k := 1) (n := 6) (by decide) (by decide) ?_
  exact W.iret (v := 1) hx hb hr (fun t ht hW => ⟨⟨1, (), rfl, rfl, by rw [ht]; exact hP, va_K.moved hW.alike hK, hD⟩, hS.F ht⟩) hS.2.2 d_Lw_give_14

set_option maxHeartbeats 4000000 in
set_option maxRecDepth 100000 in
/-- the helper of clause, where the row is empty -/
theorem c_Lw_clause_1 (l : Launch) (hfl : l.flags = pinnedFlags ++ [noTraceFlag]) (dC : Nat → ClassId) (dI : Nat → Nat → Nat) (h0 : Nat) (b0 : Nat) (b1 : Nat) (b2 : Nat) (b3 : Nat) (o0 : Nat) (cl : ClassId) (sz lim : Nat) (rs : Int32) (vc : Int32) (wv : Int32) (bw : Int32) (fo : Nat → Int64) (h : rs = 0) : Met l y_Lw_clause (wh y_Lw_clause method_5_code 3 (some .int) [(0, 8, 11, 24), (0, 8, 14, 15)]) ({ frames := 7, cells := 1, slots := 6, locals := 110 }) (va_Pc [.ref h0, .ref o0] (fun U => U.heap.size = sz ∧ va_P (dC, dI) vwCl [(h0, .inr (6, [.ref b0, .ref b1, .ref b2, .ref b3, .int rs, .int vc, .int wv, .int bw])), (o0, .inl (cl, 1, .inr (.inl fo)))] U.heap ∧ va_K (dC, dI) vwCl [(cl, .long)] U ∧ va_D (fun _ => True) [(h0, .inr (6, [.ref b0, .ref b1, .ref b2, .ref b3, .int rs, .int vc, .int wv, .int bw])), (o0, .inl (cl, 1, .inr (.inl fo)))] ∧ tw_Z U U.heap lim)) (va_Qi (fun (r : Int32) (_ : Unit) => r = 1) (fun (_ : Unit) t => va_P (dC, dI) vwCl [(h0, .inr (6, [.ref b0, .ref b1, .ref b2, .ref b3, .int rs, .int vc, .int wv, .int bw])), (o0, .inl (cl, 1, .inr (.inl fo)))] t.heap ∧ va_K (dC, dI) vwCl [(cl, .long)] t ∧ va_D (va_A [(h0, .inr (6, [.ref b0, .ref b1, .ref b2, .ref b3, .int rs, .int vc, .int wv, .int bw])), (o0, .inl (cl, 1, .inr (.inl fo)))] sz) [(h0, .inr (6, [.ref b0, .ref b1, .ref b2, .ref b3, .int rs, .int vc, .int wv, .int bw])), (o0, .inl (cl, 1, .inr (.inl fo)))]) (va_A [(h0, .inr (6, [.ref b0, .ref b1, .ref b2, .ref b3, .int rs, .int vc, .int wv, .int bw])), (o0, .inl (cl, 1, .inr (.inl fo)))] sz)) 1 6 (va_A [(h0, .inr (6, [.ref b0, .ref b1, .ref b2, .ref b3, .int rs, .int vc, .int wv, .int bw])), (o0, .inl (cl, 1, .inr (.inl fo)))] sz) := by
  refine va_MetW (hh := [(0, 8, 11, 24), (0, 8, 14, 15)]) (cc := method_5_code) (maxL := 3) (ret := (some .int)) (by decide) rfl ?_
  intro p e s m args below meth c s₁ B hml hv
  obtain ⟨rfl, hsz, hP, hK, hD0, hz⟩ := hv
  have hx := B.exec
  have hb := B.bytes
  have hr := B.returns
  have hw : ∀ w ∈ bg_W, w.before #[Value.ref h0, Value.ref o0] s = true := fun w h => atoms_spec (ws := (wh y_Lw_clause method_5_code 3 (some .int) [(0, 8, 11, 24), (0, 8, 14, 15)])) B.pre w (List.mem_cons_of_mem _ h)
  have hown : s.vm.findClass R_Lw = some m.cls := findClass_of_methodNamed B.named
  have hlocks := B.notSynchronized
  subst hsz
  have hD := hD0.self (sz := s.heap.size)
  generalize hAe : va_A [(h0, .inr (6, [.ref b0, .ref b1, .ref b2, .ref b3, .int rs, .int vc, .int wv, .int bw])), (o0, .inl (cl, 1, .inr (.inl fo)))] s.heap.size = A at hD ⊢
  have hA : ∀ q : Nat, s.heap.size ≤ q → A q := fun q h => by rw [← hAe]; exact Or.inr h
  have hS : va_S A s.heap s.heap [] := va_S.rf
  have hP : va_P (dC, dI) vwCl [(h0, .inr (6, [.ref b0, .ref b1, .ref b2, .ref b3, .int rs, .int vc, .int wv, .int bw])), (o0, .inl (cl, 1, .inr (.inl fo)))] s.heap := hP
  have hl := lv_entry ([.ref h0, .ref o0]) (n := 3) (Nat.le_of_ble_eq_true rfl)
  rw [lg_entry_eq]
  generalize (lg_sl ([.ref h0, .ref o0]) ++ List.replicate (3 - (lg_sl ([.ref h0, .ref o0])).length) Slot.unset).toArray = ls at hl ⊢
  have hl : lv_has ls 3 [(0, .ref h0), (1, .ref o0)] := hl
  obtain ⟨H, hH⟩ : ∃ H : Heap, H = s.heap := ⟨_, rfl⟩
  rw [← hH] at hP
  have hS : va_S A s.heap H [] := by rw [hH]; exact va_S.rf
  show W p l e _ s m _ below meth c s.heap [] 0 0 _ _
  rw [← hH]
  have hTab := th_table B (atoms_spec (ws := (wh y_Lw_clause method_5_code 3 (some .int) [(0, 8, 11, 24), (0, 8, 14, 15)])) B.pre _ List.mem_cons_self)
  refine lv_aload_n hx hb d_Lw_clause_0 rfl (lv_at hl 1 rfl) ?_
  refine lv_iconst (v := 0) hx hb d_Lw_clause_1 (by decide) ?_
  refine lv_aload_n hx hb d_Lw_clause_2 rfl (lv_at hl 0 rfl) ?_
  have hPc := hP.sub (ws' := [(h0, .inr (6, [.ref b0, .ref b1, .ref b2, .ref b3, .int rs, .int vc, .int wv, .int bw]))]) [0] rfl
  have hDc := hD.sub (ws' := [(h0, .inr (6, [.ref b0, .ref b1, .ref b2, .ref b3, .int rs, .int vc, .int wv, .int bw]))]) [0] (by decide) rfl
  have hKc := hK.sub (tys' := []) [] rfl
  refine tw_call (As := []) (rest := [.int 0, .ref o0]) ⟨hx, hb, hml, hown, hw⟩ (x_Cs_clause_1 l hfl dC dI h0 b0 b1 b2 b3 H.size lim rs vc wv bw h) (cb_V (C := R_Cs) 0 hw k_553 k_29 k_550 k_551 k_552 rfl rfl (by decide +kernel) ⟨Nat.le_of_ble_eq_true rfl, Nat.le_of_ble_eq_true rfl⟩) ⟨fun a U g mk q => by obtain ⟨q0, q1, qP, qK, qD, qZ⟩ := q; exact ⟨q0, q1, qP, va_K.moved (u := U) (U := U.calling g mk a) (Vm.Alike.refl U.vm) qK, qD, tw_Z.moved (u := U) (U := U.calling g mk a) (Vm.Alike.refl U.vm) qZ⟩, va_recv hKc hPc (ci := 6) (q0 := 0) rfl rfl, fun U hU hW => ⟨rfl, by rw [hU], by rw [hU]; exact hPc, va_K.moved hW.alike hKc, hDc.weaken (fun _ _ _ _ => trivial), by rw [hU, hH]; exact hz.moved hW.alike⟩⟩ rfl hl.1 rfl (lv_room (Nat.le_of_ble_eq_true rfl)) d_Lw_clause_3 ⟨Nat.le_of_ble_eq_true rfl, Nat.le_of_ble_eq_true rfl⟩ (x := ⟨0, 8, 11, 24⟩) (more := [⟨0, 8, 14, 15⟩]) hTab (by decide) (by decide) (hw (Cond.classLink "ClauseSearchLaw" 24 "java/lang/IllegalStateException") k_549) (hw (Cond.castable "java/lang/IllegalStateException" "java/lang/IllegalStateException") k_556) (fun a9 H1 hle9 hk9 => ?_)
  have hP : va_P (dC, dI) vwCl [(h0, .inr (6, [.ref b0, .ref b1, .ref b2, .ref b3, .int rs, .int vc, .int wv, .int bw])), (o0, .inl (cl, 1, .inr (.inl fo)))] H1 := fun k q h => (hP k q h).kept (hk9 q.1 (hP k q h).lt)
  have hS : va_S A s.heap H1 [] := ⟨Nat.le_trans hS.1 hle9, fun q hq hA9 => (hk9 q (Nat.lt_of_lt_of_le hq hS.1)).trans (hS.2.1 q hq hA9), hS.2.2⟩
  generalize H1 = H at hP hS ⊢
  refine W.widen (k := 1) (n := 6) (by decide) (by decide) ?_
  refine lv_astore_n (lv' := [(2, .ref a9), (0, .ref h0), (1, .ref o0)]) hx hb d_Lw_clause_11 rfl hl (by decide) rfl (fun ls hl => ?_)
  refine lv_iconst (v := 1) hx hb d_Lw_clause_12 (by decide) ?_
  refine W.widen (k := 1) (n := 6) (by decide) (by decide) ?_
  exact W.iret (v := 1) hx hb hr (fun t ht hW => ⟨⟨1, (), rfl, rfl, by rw [ht]; exact hP, va_K.moved hW.alike hK, hD⟩, hS.F ht⟩) hS.2.2 d_Lw_clause_13

set_option maxHeartbeats 4000000 in
set_option maxRecDepth 100000 in
/-- the helper of value, where v is refused -/
theorem c_Lw_value_1 (l : Launch) (hfl : l.flags = pinnedFlags ++ [noTraceFlag]) (dC : Nat → ClassId) (dI : Nat → Nat → Nat) (h0 : Nat) (b0 : Nat) (b1 : Nat) (b2 : Nat) (b3 : Nat) (o0 : Nat) (cl : ClassId) (sz lim : Nat) (rs : Int32) (vc : Int32) (wv : Int32) (bw : Int32) (p0 : Int32) (fo : Nat → Int64) (h : p0 < 1 ∨ vc < p0) : Met l y_Lw_value (wh y_Lw_value method_6_code 4 (some .int) [(0, 16, 19, 13), (0, 16, 22, 24)]) ({ frames := 7, cells := 1, slots := 6, locals := 111 }) (va_Pc [.ref h0, .int p0, .ref o0] (fun U => U.heap.size = sz ∧ va_P (dC, dI) vwCl [(h0, .inr (6, [.ref b0, .ref b1, .ref b2, .ref b3, .int rs, .int vc, .int wv, .int bw])), (o0, .inl (cl, 1, .inr (.inl fo)))] U.heap ∧ va_K (dC, dI) vwCl [(cl, .long)] U ∧ va_D (fun _ => True) [(h0, .inr (6, [.ref b0, .ref b1, .ref b2, .ref b3, .int rs, .int vc, .int wv, .int bw])), (o0, .inl (cl, 1, .inr (.inl fo)))] ∧ tw_Z U U.heap lim)) (va_Qi (fun (r : Int32) (_ : Unit) => r = 1) (fun (_ : Unit) t => va_P (dC, dI) vwCl [(h0, .inr (6, [.ref b0, .ref b1, .ref b2, .ref b3, .int rs, .int vc, .int wv, .int bw])), (o0, .inl (cl, 1, .inr (.inl fo)))] t.heap ∧ va_K (dC, dI) vwCl [(cl, .long)] t ∧ va_D (va_A [(h0, .inr (6, [.ref b0, .ref b1, .ref b2, .ref b3, .int rs, .int vc, .int wv, .int bw])), (o0, .inl (cl, 1, .inr (.inl fo)))] sz) [(h0, .inr (6, [.ref b0, .ref b1, .ref b2, .ref b3, .int rs, .int vc, .int wv, .int bw])), (o0, .inl (cl, 1, .inr (.inl fo)))]) (va_A [(h0, .inr (6, [.ref b0, .ref b1, .ref b2, .ref b3, .int rs, .int vc, .int wv, .int bw])), (o0, .inl (cl, 1, .inr (.inl fo)))] sz)) 1 6 (va_A [(h0, .inr (6, [.ref b0, .ref b1, .ref b2, .ref b3, .int rs, .int vc, .int wv, .int bw])), (o0, .inl (cl, 1, .inr (.inl fo)))] sz) := by
  refine va_MetW (hh := [(0, 16, 19, 13), (0, 16, 22, 24)]) (cc := method_6_code) (maxL := 4) (ret := (some .int)) (by decide) rfl ?_
  intro p e s m args below meth c s₁ B hml hv
  obtain ⟨rfl, hsz, hP, hK, hD0, hz⟩ := hv
  have hx := B.exec
  have hb := B.bytes
  have hr := B.returns
  have hw : ∀ w ∈ bg_W, w.before #[Value.ref h0, Value.int p0, Value.ref o0] s = true := fun w h => atoms_spec (ws := (wh y_Lw_value method_6_code 4 (some .int) [(0, 16, 19, 13), (0, 16, 22, 24)])) B.pre w (List.mem_cons_of_mem _ h)
  have hown : s.vm.findClass R_Lw = some m.cls := findClass_of_methodNamed B.named
  have hlocks := B.notSynchronized
  subst hsz
  have hD := hD0.self (sz := s.heap.size)
  generalize hAe : va_A [(h0, .inr (6, [.ref b0, .ref b1, .ref b2, .ref b3, .int rs, .int vc, .int wv, .int bw])), (o0, .inl (cl, 1, .inr (.inl fo)))] s.heap.size = A at hD ⊢
  have hA : ∀ q : Nat, s.heap.size ≤ q → A q := fun q h => by rw [← hAe]; exact Or.inr h
  have hS : va_S A s.heap s.heap [] := va_S.rf
  have hP : va_P (dC, dI) vwCl [(h0, .inr (6, [.ref b0, .ref b1, .ref b2, .ref b3, .int rs, .int vc, .int wv, .int bw])), (o0, .inl (cl, 1, .inr (.inl fo)))] s.heap := hP
  have hl := lv_entry ([.ref h0, .int p0, .ref o0]) (n := 4) (Nat.le_of_ble_eq_true rfl)
  rw [lg_entry_eq]
  generalize (lg_sl ([.ref h0, .int p0, .ref o0]) ++ List.replicate (4 - (lg_sl ([.ref h0, .int p0, .ref o0])).length) Slot.unset).toArray = ls at hl ⊢
  have hl : lv_has ls 4 [(0, .ref h0), (1, .int p0), (2, .ref o0)] := hl
  obtain ⟨H, hH⟩ : ∃ H : Heap, H = s.heap := ⟨_, rfl⟩
  rw [← hH] at hP
  have hS : va_S A s.heap H [] := by rw [hH]; exact va_S.rf
  show W p l e _ s m _ below meth c s.heap [] 0 0 _ _
  rw [← hH]
  have hTab := th_table B (atoms_spec (ws := (wh y_Lw_value method_6_code 4 (some .int) [(0, 16, 19, 13), (0, 16, 22, 24)])) B.pre _ List.mem_cons_self)
  refine lv_aload_n hx hb d_Lw_value_0 rfl (lv_at hl 2 rfl) ?_
  refine lv_iconst (v := 0) hx hb d_Lw_value_1 (by decide) ?_
  refine lv_aload_n hx hb d_Lw_value_2 rfl (lv_at hl 0 rfl) ?_
  refine lv_iload_n hx hb d_Lw_value_3 rfl (lv_at hl 1 rfl) ?_
  have hPc := hP.sub (ws' := [(h0, .inr (6, [.ref b0, .ref b1, .ref b2, .ref b3, .int rs, .int vc, .int wv, .int bw]))]) [0] rfl
  have hDc := hD.sub (ws' := [(h0, .inr (6, [.ref b0, .ref b1, .ref b2, .ref b3, .int rs, .int vc, .int wv, .int bw]))]) [0] (by decide) rfl
  have hKc := hK.sub (tys' := []) [] rfl
  refine tw_call (As := [.int p0]) (rest := [.int 0, .ref o0]) ⟨hx, hb, hml, hown, hw⟩ (x_Cs_value_1 l hfl dC dI h0 b0 b1 b2 b3 H.size lim rs vc wv bw p0 h) (cb_V (C := R_Cs) 1 hw k_586 k_29 k_583 k_584 k_585 rfl rfl (by decide +kernel) ⟨Nat.le_of_ble_eq_true rfl, Nat.le_of_ble_eq_true rfl⟩) ⟨fun a U g mk q => by obtain ⟨q0, q1, qP, qK, qD, qZ⟩ := q; exact ⟨q0, q1, qP, va_K.moved (u := U) (U := U.calling g mk a) (Vm.Alike.refl U.vm) qK, qD, tw_Z.moved (u := U) (U := U.calling g mk a) (Vm.Alike.refl U.vm) qZ⟩, va_recv hKc hPc (ci := 6) (q0 := 0) rfl rfl, fun U hU hW => ⟨rfl, by rw [hU], by rw [hU]; exact hPc, va_K.moved hW.alike hKc, hDc.weaken (fun _ _ _ _ => trivial), by rw [hU, hH]; exact hz.moved hW.alike⟩⟩ rfl hl.1 rfl (lv_room (Nat.le_of_ble_eq_true rfl)) d_Lw_value_4 ⟨Nat.le_of_ble_eq_true rfl, Nat.le_of_ble_eq_true rfl⟩ (x := ⟨0, 16, 19, 13⟩) (more := [⟨0, 16, 22, 24⟩]) hTab (by decide) (by decide) (hw (Cond.classLink "ClauseSearchLaw" 13 "java/lang/IllegalArgumentException") k_448) (hw (Cond.castable "java/lang/IllegalArgumentException" "java/lang/IllegalArgumentException") k_456) (fun a9 H1 hle9 hk9 => ?_)
  have hP : va_P (dC, dI) vwCl [(h0, .inr (6, [.ref b0, .ref b1, .ref b2, .ref b3, .int rs, .int vc, .int wv, .int bw])), (o0, .inl (cl, 1, .inr (.inl fo)))] H1 := fun k q h => (hP k q h).kept (hk9 q.1 (hP k q h).lt)
  have hS : va_S A s.heap H1 [] := ⟨Nat.le_trans hS.1 hle9, fun q hq hA9 => (hk9 q (Nat.lt_of_lt_of_le hq hS.1)).trans (hS.2.1 q hq hA9), hS.2.2⟩
  generalize H1 = H at hP hS ⊢
  refine W.widen (k := 1) (n := 6) (by decide) (by decide) ?_
  refine lv_astore_n (lv' := [(3, .ref a9), (0, .ref h0), (1, .int p0), (2, .ref o0)]) hx hb d_Lw_value_19 rfl hl (by decide) rfl (fun ls hl => ?_)
  refine lv_iconst (v := 1) hx hb d_Lw_value_20 (by decide) ?_
  refine W.widen (k := 1) (n := 6) (by decide) (by decide) ?_
  exact W.iret (v := 1) hx hb hr (fun t ht hW => ⟨⟨1, (), rfl, rfl, by rw [ht]; exact hP, va_K.moved hW.alike hK, hD⟩, hS.F ht⟩) hS.2.2 d_Lw_value_21

set_option maxHeartbeats 4000000 in
set_option maxRecDepth 100000 in
/-- the helper of count, where what is refused -/
theorem c_Lw_count_1 (l : Launch) (hfl : l.flags = pinnedFlags ++ [noTraceFlag]) (dC : Nat → ClassId) (dI : Nat → Nat → Nat) (h0 : Nat) (b0 : Nat) (b1 : Nat) (b2 : Nat) (b3 : Nat) (o0 : Nat) (cl : ClassId) (sz lim : Nat) (rs : Int32) (vc : Int32) (wv : Int32) (bw : Int32) (p0 : Int32) (fo : Nat → Int64) (h : p0.toInt < 0 ∨ 5 < p0.toInt) : Met l y_Lw_count (wh y_Lw_count method_7_code 4 (some .int) [(0, 9, 12, 13)]) ({ frames := 7, cells := 1, slots := 6, locals := 111 }) (va_Pc [.ref h0, .int p0, .ref o0] (fun U => U.heap.size = sz ∧ va_P (dC, dI) vwCl [(h0, .inr (6, [.ref b0, .ref b1, .ref b2, .ref b3, .int rs, .int vc, .int wv, .int bw])), (o0, .inl (cl, 1, .inr (.inl fo)))] U.heap ∧ va_K (dC, dI) vwCl [(cl, .long)] U ∧ va_D (fun _ => True) [(h0, .inr (6, [.ref b0, .ref b1, .ref b2, .ref b3, .int rs, .int vc, .int wv, .int bw])), (o0, .inl (cl, 1, .inr (.inl fo)))] ∧ tw_Z U U.heap lim)) (va_Qi (fun (r : Int32) (_ : Unit) => r = 1) (fun (_ : Unit) t => va_P (dC, dI) vwCl [(h0, .inr (6, [.ref b0, .ref b1, .ref b2, .ref b3, .int rs, .int vc, .int wv, .int bw])), (o0, .inl (cl, 1, .inr (.inl fo)))] t.heap ∧ va_K (dC, dI) vwCl [(cl, .long)] t ∧ va_D (va_A [(h0, .inr (6, [.ref b0, .ref b1, .ref b2, .ref b3, .int rs, .int vc, .int wv, .int bw])), (o0, .inl (cl, 1, .inr (.inl fo)))] sz) [(h0, .inr (6, [.ref b0, .ref b1, .ref b2, .ref b3, .int rs, .int vc, .int wv, .int bw])), (o0, .inl (cl, 1, .inr (.inl fo)))]) (va_A [(h0, .inr (6, [.ref b0, .ref b1, .ref b2, .ref b3, .int rs, .int vc, .int wv, .int bw])), (o0, .inl (cl, 1, .inr (.inl fo)))] sz)) 1 6 (va_A [(h0, .inr (6, [.ref b0, .ref b1, .ref b2, .ref b3, .int rs, .int vc, .int wv, .int bw])), (o0, .inl (cl, 1, .inr (.inl fo)))] sz) := by
  refine va_MetW (hh := [(0, 9, 12, 13)]) (cc := method_7_code) (maxL := 4) (ret := (some .int)) (by decide) rfl ?_
  intro p e s m args below meth c s₁ B hml hv
  obtain ⟨rfl, hsz, hP, hK, hD0, hz⟩ := hv
  have hx := B.exec
  have hb := B.bytes
  have hr := B.returns
  have hw : ∀ w ∈ bg_W, w.before #[Value.ref h0, Value.int p0, Value.ref o0] s = true := fun w h => atoms_spec (ws := (wh y_Lw_count method_7_code 4 (some .int) [(0, 9, 12, 13)])) B.pre w (List.mem_cons_of_mem _ h)
  have hown : s.vm.findClass R_Lw = some m.cls := findClass_of_methodNamed B.named
  have hlocks := B.notSynchronized
  subst hsz
  have hD := hD0.self (sz := s.heap.size)
  generalize hAe : va_A [(h0, .inr (6, [.ref b0, .ref b1, .ref b2, .ref b3, .int rs, .int vc, .int wv, .int bw])), (o0, .inl (cl, 1, .inr (.inl fo)))] s.heap.size = A at hD ⊢
  have hA : ∀ q : Nat, s.heap.size ≤ q → A q := fun q h => by rw [← hAe]; exact Or.inr h
  have hS : va_S A s.heap s.heap [] := va_S.rf
  have hP : va_P (dC, dI) vwCl [(h0, .inr (6, [.ref b0, .ref b1, .ref b2, .ref b3, .int rs, .int vc, .int wv, .int bw])), (o0, .inl (cl, 1, .inr (.inl fo)))] s.heap := hP
  have hl := lv_entry ([.ref h0, .int p0, .ref o0]) (n := 4) (Nat.le_of_ble_eq_true rfl)
  rw [lg_entry_eq]
  generalize (lg_sl ([.ref h0, .int p0, .ref o0]) ++ List.replicate (4 - (lg_sl ([.ref h0, .int p0, .ref o0])).length) Slot.unset).toArray = ls at hl ⊢
  have hl : lv_has ls 4 [(0, .ref h0), (1, .int p0), (2, .ref o0)] := hl
  obtain ⟨H, hH⟩ : ∃ H : Heap, H = s.heap := ⟨_, rfl⟩
  rw [← hH] at hP
  have hS : va_S A s.heap H [] := by rw [hH]; exact va_S.rf
  show W p l e _ s m _ below meth c s.heap [] 0 0 _ _
  rw [← hH]
  have hTab := th_table B (atoms_spec (ws := (wh y_Lw_count method_7_code 4 (some .int) [(0, 9, 12, 13)])) B.pre _ List.mem_cons_self)
  refine lv_aload_n hx hb d_Lw_count_0 rfl (lv_at hl 2 rfl) ?_
  refine lv_iconst (v := 0) hx hb d_Lw_count_1 (by decide) ?_
  refine lv_aload_n hx hb d_Lw_count_2 rfl (lv_at hl 0 rfl) ?_
  refine lv_iload_n hx hb d_Lw_count_3 rfl (lv_at hl 1 rfl) ?_
  have hPc := hP.sub (ws' := [(h0, .inr (6, [.ref b0, .ref b1, .ref b2, .ref b3, .int rs, .int vc, .int wv, .int bw]))]) [0] rfl
  have hDc := hD.sub (ws' := [(h0, .inr (6, [.ref b0, .ref b1, .ref b2, .ref b3, .int rs, .int vc, .int wv, .int bw]))]) [0] (by decide) rfl
  have hKc := hK.sub (tys' := []) [] rfl
  refine tw_call (As := [.int p0]) (rest := [.int 0, .ref o0]) ⟨hx, hb, hml, hown, hw⟩ (x_Cs_count_1 l hfl dC dI h0 b0 b1 b2 b3 H.size lim rs vc wv bw p0 h) (cb_V (C := R_Cs) 1 hw k_595 k_29 k_592 k_593 k_594 rfl rfl (by decide +kernel) ⟨Nat.le_of_ble_eq_true rfl, Nat.le_of_ble_eq_true rfl⟩) ⟨fun a U g mk q => by obtain ⟨q0, q1, qP, qK, qD, qZ⟩ := q; exact ⟨q0, q1, qP, va_K.moved (u := U) (U := U.calling g mk a) (Vm.Alike.refl U.vm) qK, qD, tw_Z.moved (u := U) (U := U.calling g mk a) (Vm.Alike.refl U.vm) qZ⟩, va_recv hKc hPc (ci := 6) (q0 := 0) rfl rfl, fun U hU hW => ⟨rfl, by rw [hU], by rw [hU]; exact hPc, va_K.moved hW.alike hKc, hDc.weaken (fun _ _ _ _ => trivial), by rw [hU, hH]; exact hz.moved hW.alike⟩⟩ rfl hl.1 rfl (lv_room (Nat.le_of_ble_eq_true rfl)) d_Lw_count_4 ⟨Nat.le_of_ble_eq_true rfl, Nat.le_of_ble_eq_true rfl⟩ (x := ⟨0, 9, 12, 13⟩) (more := []) hTab (by decide) (by decide) (hw (Cond.classLink "ClauseSearchLaw" 13 "java/lang/IllegalArgumentException") k_448) (hw (Cond.castable "java/lang/IllegalArgumentException" "java/lang/IllegalArgumentException") k_456) (fun a9 H1 hle9 hk9 => ?_)
  have hP : va_P (dC, dI) vwCl [(h0, .inr (6, [.ref b0, .ref b1, .ref b2, .ref b3, .int rs, .int vc, .int wv, .int bw])), (o0, .inl (cl, 1, .inr (.inl fo)))] H1 := fun k q h => (hP k q h).kept (hk9 q.1 (hP k q h).lt)
  have hS : va_S A s.heap H1 [] := ⟨Nat.le_trans hS.1 hle9, fun q hq hA9 => (hk9 q (Nat.lt_of_lt_of_le hq hS.1)).trans (hS.2.1 q hq hA9), hS.2.2⟩
  generalize H1 = H at hP hS ⊢
  refine W.widen (k := 1) (n := 6) (by decide) (by decide) ?_
  refine lv_astore_n (lv' := [(3, .ref a9), (0, .ref h0), (1, .int p0), (2, .ref o0)]) hx hb d_Lw_count_12 rfl hl (by decide) rfl (fun ls hl => ?_)
  refine lv_iconst (v := 1) hx hb d_Lw_count_13 (by decide) ?_
  refine W.widen (k := 1) (n := 6) (by decide) (by decide) ?_
  exact W.iret (v := 1) hx hb hr (fun t ht hW => ⟨⟨1, (), rfl, rfl, by rw [ht]; exact hP, va_K.moved hW.alike hK, hD⟩, hS.F ht⟩) hS.2.2 d_Lw_count_14

set_option maxHeartbeats 4000000 in
set_option maxRecDepth 100000 in
/-- the helper of count on a new object -/
theorem c_Lw_count_0 (l : Launch) (dC : Nat → ClassId) (dI : Nat → Nat → Nat) (h0 : Nat) (b0 : Nat) (b1 : Nat) (s0 : Nat) (b3 : Nat) (g0 : Nat) (g1 : Nat) (g2 : Nat) (r0 : Nat) (t0 : Nat) (w0 : Nat) (l0 : Nat) (k0 : Nat) (v0 : Nat) (v1 : Nat) (v2 : Nat) (o0 : Nat) (cl : ClassId) (sz : Nat) (p0 : Int32) (fo : Nat → Int64) (h1 : ¬ p0.toInt < 0) (h2 : ¬ 5 < p0.toInt) : Met l y_Lw_count (wh y_Lw_count method_7_code 4 (some .int) [(0, 9, 12, 13)]) ({ frames := 1, cells := 0, slots := 0, locals := 21 }) (va_Pc [.ref h0, .int p0, .ref o0] (fun U => U.heap.size = sz ∧ va_P (dC, dI) vwCl [(h0, .inr (6, [.ref b0, .ref b1, .ref s0, .ref b3, .int 0, .int 0, .int 0, .int 0])), (b1, .inr (2, [.ref g0, .ref g1, .ref g2, .int 0])), (s0, .inr (3, [.ref r0, .ref t0, .ref w0, .ref l0, .ref k0, .ref v0, .ref v1, .ref v2, .int 0, .int 0, .int 0, .int 0])), (o0, .inl (cl, 1, .inr (.inl fo)))] U.heap ∧ va_K (dC, dI) vwCl [(cl, .long)] U ∧ va_D (fun _ => True) [(h0, .inr (6, [.ref b0, .ref b1, .ref s0, .ref b3, .int 0, .int 0, .int 0, .int 0])), (b1, .inr (2, [.ref g0, .ref g1, .ref g2, .int 0])), (s0, .inr (3, [.ref r0, .ref t0, .ref w0, .ref l0, .ref k0, .ref v0, .ref v1, .ref v2, .int 0, .int 0, .int 0, .int 0])), (o0, .inl (cl, 1, .inr (.inl fo)))])) (va_Qi (fun (r : Int32) (_ : Unit) => r = 0) (fun (_ : Unit) t => va_P (dC, dI) vwCl [(o0, .inl (cl, 1, .inr (.inl (vp_updL fo ((0 : Int32).toNatClampNeg) ((0 : Int32).toInt64))))), (h0, .inr (6, [.ref b0, .ref b1, .ref s0, .ref b3, .int 0, .int 0, .int 0, .int 0])), (b1, .inr (2, [.ref g0, .ref g1, .ref g2, .int 0])), (s0, .inr (3, [.ref r0, .ref t0, .ref w0, .ref l0, .ref k0, .ref v0, .ref v1, .ref v2, .int 0, .int 0, .int 0, .int 0]))] t.heap ∧ va_K (dC, dI) vwCl [(cl, .long)] t ∧ va_D (va_A [(h0, .inr (6, [.ref b0, .ref b1, .ref s0, .ref b3, .int 0, .int 0, .int 0, .int 0])), (b1, .inr (2, [.ref g0, .ref g1, .ref g2, .int 0])), (s0, .inr (3, [.ref r0, .ref t0, .ref w0, .ref l0, .ref k0, .ref v0, .ref v1, .ref v2, .int 0, .int 0, .int 0, .int 0])), (o0, .inl (cl, 1, .inr (.inl fo)))] sz) [(o0, .inl (cl, 1, .inr (.inl (vp_updL fo ((0 : Int32).toNatClampNeg) ((0 : Int32).toInt64))))), (h0, .inr (6, [.ref b0, .ref b1, .ref s0, .ref b3, .int 0, .int 0, .int 0, .int 0])), (b1, .inr (2, [.ref g0, .ref g1, .ref g2, .int 0])), (s0, .inr (3, [.ref r0, .ref t0, .ref w0, .ref l0, .ref k0, .ref v0, .ref v1, .ref v2, .int 0, .int 0, .int 0, .int 0]))]) (va_A [(h0, .inr (6, [.ref b0, .ref b1, .ref s0, .ref b3, .int 0, .int 0, .int 0, .int 0])), (b1, .inr (2, [.ref g0, .ref g1, .ref g2, .int 0])), (s0, .inr (3, [.ref r0, .ref t0, .ref w0, .ref l0, .ref k0, .ref v0, .ref v1, .ref v2, .int 0, .int 0, .int 0, .int 0])), (o0, .inl (cl, 1, .inr (.inl fo)))] sz)) 0 0 (va_A [(h0, .inr (6, [.ref b0, .ref b1, .ref s0, .ref b3, .int 0, .int 0, .int 0, .int 0])), (b1, .inr (2, [.ref g0, .ref g1, .ref g2, .int 0])), (s0, .inr (3, [.ref r0, .ref t0, .ref w0, .ref l0, .ref k0, .ref v0, .ref v1, .ref v2, .int 0, .int 0, .int 0, .int 0])), (o0, .inl (cl, 1, .inr (.inl fo)))] sz) := by
  refine va_MetW (hh := [(0, 9, 12, 13)]) (cc := method_7_code) (maxL := 4) (ret := (some .int)) (by decide) rfl ?_
  intro p e s m args below meth c s₁ B hml hv
  obtain ⟨rfl, hsz, hP, hK, hD0⟩ := hv
  have hx := B.exec
  have hb := B.bytes
  have hr := B.returns
  have hw : ∀ w ∈ bg_W, w.before #[Value.ref h0, Value.int p0, Value.ref o0] s = true := fun w h => atoms_spec (ws := (wh y_Lw_count method_7_code 4 (some .int) [(0, 9, 12, 13)])) B.pre w (List.mem_cons_of_mem _ h)
  have hown : s.vm.findClass R_Lw = some m.cls := findClass_of_methodNamed B.named
  have hlocks := B.notSynchronized
  subst hsz
  have hD := hD0.self (sz := s.heap.size)
  generalize hAe : va_A [(h0, .inr (6, [.ref b0, .ref b1, .ref s0, .ref b3, .int 0, .int 0, .int 0, .int 0])), (b1, .inr (2, [.ref g0, .ref g1, .ref g2, .int 0])), (s0, .inr (3, [.ref r0, .ref t0, .ref w0, .ref l0, .ref k0, .ref v0, .ref v1, .ref v2, .int 0, .int 0, .int 0, .int 0])), (o0, .inl (cl, 1, .inr (.inl fo)))] s.heap.size = A at hD ⊢
  have hA : ∀ q : Nat, s.heap.size ≤ q → A q := fun q h => by rw [← hAe]; exact Or.inr h
  have hS : va_S A s.heap s.heap [] := va_S.rf
  have hP : va_P (dC, dI) vwCl [(h0, .inr (6, [.ref b0, .ref b1, .ref s0, .ref b3, .int 0, .int 0, .int 0, .int 0])), (b1, .inr (2, [.ref g0, .ref g1, .ref g2, .int 0])), (s0, .inr (3, [.ref r0, .ref t0, .ref w0, .ref l0, .ref k0, .ref v0, .ref v1, .ref v2, .int 0, .int 0, .int 0, .int 0])), (o0, .inl (cl, 1, .inr (.inl fo)))] s.heap := hP
  have hl := lv_entry ([.ref h0, .int p0, .ref o0]) (n := 4) (Nat.le_of_ble_eq_true rfl)
  rw [lg_entry_eq]
  generalize (lg_sl ([.ref h0, .int p0, .ref o0]) ++ List.replicate (4 - (lg_sl ([.ref h0, .int p0, .ref o0])).length) Slot.unset).toArray = ls at hl ⊢
  have hl : lv_has ls 4 [(0, .ref h0), (1, .int p0), (2, .ref o0)] := hl
  obtain ⟨H, hH⟩ : ∃ H : Heap, H = s.heap := ⟨_, rfl⟩
  rw [← hH] at hP
  have hS : va_S A s.heap H [] := by rw [hH]; exact va_S.rf
  show W p l e _ s m _ below meth c s.heap [] 0 0 _ _
  rw [← hH]
  have hTab := th_table B (atoms_spec (ws := (wh y_Lw_count method_7_code 4 (some .int) [(0, 9, 12, 13)])) B.pre _ List.mem_cons_self)
  refine lv_aload_n hx hb d_Lw_count_0 rfl (lv_at hl 2 rfl) ?_
  refine lv_iconst (v := 0) hx hb d_Lw_count_1 (by decide) ?_
  refine lv_aload_n hx hb d_Lw_count_2 rfl (lv_at hl 0 rfl) ?_
  refine lv_iload_n hx hb d_Lw_count_3 rfl (lv_at hl 1 rfl) ?_
  have hPc := hP.sub (ws' := [(h0, .inr (6, [.ref b0, .ref b1, .ref s0, .ref b3, .int 0, .int 0, .int 0, .int 0])), (b1, .inr (2, [.ref g0, .ref g1, .ref g2, .int 0])), (s0, .inr (3, [.ref r0, .ref t0, .ref w0, .ref l0, .ref k0, .ref v0, .ref v1, .ref v2, .int 0, .int 0, .int 0, .int 0]))]) [0, 1, 2] rfl
  have hDc := hD.sub (ws' := [(h0, .inr (6, [.ref b0, .ref b1, .ref s0, .ref b3, .int 0, .int 0, .int 0, .int 0])), (b1, .inr (2, [.ref g0, .ref g1, .ref g2, .int 0])), (s0, .inr (3, [.ref r0, .ref t0, .ref w0, .ref l0, .ref k0, .ref v0, .ref v1, .ref v2, .int 0, .int 0, .int 0, .int 0]))]) [0, 1, 2] (by decide) rfl
  have hKc := hK.sub (tys' := []) [] rfl
  have hFc := va_free (wc := [(h0, .inr (6, [.ref b0, .ref b1, .ref s0, .ref b3, .int 0, .int 0, .int 0, .int 0])), (b1, .inr (2, [.ref g0, .ref g1, .ref g2, .int 0])), (s0, .inr (3, [.ref r0, .ref t0, .ref w0, .ref l0, .ref k0, .ref v0, .ref v1, .ref v2, .int 0, .int 0, .int 0, .int 0]))]) hD hS hA [0, 1, 2] rfl
  refine va_calli (va_runV (As := [.int p0]) (rest := [.int 0, .ref o0]) ⟨hx, hb, hml, hown, hw⟩ (c_Cs_count_0 l dC dI h0 b0 b1 s0 b3 g0 g1 g2 r0 t0 w0 l0 k0 v0 v1 v2 H.size p0 h1 h2) (cb_V (C := R_Cs) 1 hw k_595 k_29 k_592 k_593 k_594 rfl rfl (by decide +kernel) ⟨Nat.le_of_ble_eq_true rfl, Nat.le_of_ble_eq_true rfl⟩) ⟨fun a U g mk q => by obtain ⟨q0, q1, qP, qK, qD⟩ := q; exact ⟨q0, q1, qP, va_K.moved (u := U) (U := U.calling g mk a) (Vm.Alike.refl U.vm) qK, qD⟩, va_recv hKc hPc (ci := 6) (q0 := 0) rfl rfl, fun U hU hW => ⟨rfl, by rw [hU], by rw [hU]; exact hPc, va_K.moved hW.alike hKc, hDc.weaken (fun _ _ _ _ => trivial)⟩⟩ rfl rfl hl.1 rfl (lv_room (Nat.le_of_ble_eq_true rfl)) d_Lw_count_4 ⟨Nat.le_of_ble_eq_true rfl, Nat.le_of_ble_eq_true rfl⟩) hS (fun q _ h => hFc q h) hFc (fun r_1 u t H1 locs ht hvm hw9 hB hz1 hk1 hS => ?_)
  obtain ⟨hP1, hK1, hD1⟩ := hB
  rw [ht] at hP1
  have hK1 := va_K.moved hvm.symm hK1
  obtain ⟨hP, hD⟩ := va_join (wr := [(o0, .inl (cl, 1, .inr (.inl fo)))]) (w1 := [(h0, .inr (6, [.ref b0, .ref b1, .ref s0, .ref b3, .int 0, .int 0, .int 0, .int 0])), (b1, .inr (2, [.ref g0, .ref g1, .ref g2, .int 0])), (s0, .inr (3, [.ref r0, .ref t0, .ref w0, .ref l0, .ref k0, .ref v0, .ref v1, .ref v2, .int 0, .int 0, .int 0, .int 0]))]) hP hD [0, 1, 2] [3] rfl rfl (by decide) (by decide) hk1 hFc hP1 hD1
  generalize H1 = H at hP hS ⊢
  have hP : va_P (dC, dI) vwCl [(o0, .inl (cl, 1, .inr (.inl fo))), (h0, .inr (6, [.ref b0, .ref b1, .ref s0, .ref b3, .int 0, .int 0, .int 0, .int 0])), (b1, .inr (2, [.ref g0, .ref g1, .ref g2, .int 0])), (s0, .inr (3, [.ref r0, .ref t0, .ref w0, .ref l0, .ref k0, .ref v0, .ref v1, .ref v2, .int 0, .int 0, .int 0, .int 0]))] H := hP
  have hD : va_D A [(o0, .inl (cl, 1, .inr (.inl fo))), (h0, .inr (6, [.ref b0, .ref b1, .ref s0, .ref b3, .int 0, .int 0, .int 0, .int 0])), (b1, .inr (2, [.ref g0, .ref g1, .ref g2, .int 0])), (s0, .inr (3, [.ref r0, .ref t0, .ref w0, .ref l0, .ref k0, .ref v0, .ref v1, .ref v2, .int 0, .int 0, .int 0, .int 0]))] := hD
  refine W.widen (k := 0) (n := 0) (by decide) (by decide) ?_
  have hw9 : r_1 = 0 := hw9
  subst hw9
  refine lv_i2l (v := (0 : Int32).toInt64) hx hb d_Lw_count_7 rfl ?_
  refine va_last hx hb hK hP hD hS 0 0 rfl rfl (by unfold vp_in; decide) d_Lw_count_8 (fun H locs hP hD hS => ?_)
  have hP : va_P (dC, dI) vwCl [(o0, .inl (cl, 1, .inr (.inl (vp_updL fo ((0 : Int32).toNatClampNeg) ((0 : Int32).toInt64))))), (h0, .inr (6, [.ref b0, .ref b1, .ref s0, .ref b3, .int 0, .int 0, .int 0, .int 0])), (b1, .inr (2, [.ref g0, .ref g1, .ref g2, .int 0])), (s0, .inr (3, [.ref r0, .ref t0, .ref w0, .ref l0, .ref k0, .ref v0, .ref v1, .ref v2, .int 0, .int 0, .int 0, .int 0]))] H := hP
  have hD : va_D A [(o0, .inl (cl, 1, .inr (.inl (vp_updL fo ((0 : Int32).toNatClampNeg) ((0 : Int32).toInt64))))), (h0, .inr (6, [.ref b0, .ref b1, .ref s0, .ref b3, .int 0, .int 0, .int 0, .int 0])), (b1, .inr (2, [.ref g0, .ref g1, .ref g2, .int 0])), (s0, .inr (3, [.ref r0, .ref t0, .ref w0, .ref l0, .ref k0, .ref v0, .ref v1, .ref v2, .int 0, .int 0, .int 0, .int 0]))] := hD
  refine lv_goto (tgt := 15) hx hb d_Lw_count_9 (by decide) ?_
  refine lv_iconst (v := 0) hx hb d_Lw_count_15 (by decide) ?_
  refine W.widen (k := 0) (n := 0) (by decide) (by decide) ?_
  exact W.iret (v := 0) hx hb hr (fun t ht hW => ⟨⟨0, (), rfl, rfl, by rw [ht]; exact hP, va_K.moved hW.alike hK, hD⟩, hS.F ht⟩) hS.2.2 d_Lw_count_16
end
section
abbrev y_Lw_law : MethodName := ⟨"ClauseSearchLaw", "law", "([I)Z"⟩
theorem k_46 : (Cond.classLink "ClauseSearchLaw" 8 "ClauseSearch") ∈ bg_W := bg_in 46 (by decide +kernel) (by decide +kernel)
theorem k_47 : (Cond.instantiable "ClauseSearch" 8) ∈ bg_W := bg_in 47 (by decide +kernel) (by decide +kernel)
theorem k_48 : (Cond.methodLink "ClauseSearchLaw" 33 ⟨"ClauseSearch", "<init>", "()V"⟩) ∈ bg_W := bg_in 48 (by decide +kernel) (by decide +kernel)
theorem k_49 : (Cond.instanceMethod ⟨"ClauseSearch", "<init>", "()V"⟩) ∈ bg_W := bg_in 49 (by decide +kernel) (by decide +kernel)
theorem k_50 : (Cond.code ⟨"ClauseSearch", "<init>", "()V"⟩ prog_1_method_1_code 1 none) ∈ bg_W := bg_in 50 (by decide +kernel) (by decide +kernel)
theorem k_597 : (Cond.classLink "ClauseSearchLaw" 34 "ClauseSearchModel") ∈ bg_W := bg_in 597 (by decide +kernel) (by decide +kernel)
theorem k_598 : (Cond.instantiable "ClauseSearchModel" 15) ∈ bg_W := bg_in 598 (by decide +kernel) (by decide +kernel)
theorem k_599 : (Cond.methodLink "ClauseSearchLaw" 36 ⟨"ClauseSearchModel", "<init>", "()V"⟩) ∈ bg_W := bg_in 599 (by decide +kernel) (by decide +kernel)
theorem k_600 : (Cond.instanceMethod ⟨"ClauseSearchModel", "<init>", "()V"⟩) ∈ bg_W := bg_in 600 (by decide +kernel) (by decide +kernel)
theorem k_601 : (Cond.code ⟨"ClauseSearchModel", "<init>", "()V"⟩ prog_9_method_1_code 1 none) ∈ bg_W := bg_in 601 (by decide +kernel) (by decide +kernel)
theorem k_706 : (Cond.arrayClass .long) ∈ bg_W := bg_in 706 (by decide +kernel) (by decide +kernel)
theorem d_Lw_law_23 : decode code 23 = .ok (.iload 4, 2) := by decide +kernel
theorem d_Lw_law_25 : decode code 25 = .ok (.aload_n 0, 1) := by decide +kernel
theorem d_Lw_law_26 : decode code 26 = .ok (.arraylength, 1) := by decide +kernel
theorem d_Lw_law_27 : decode code 27 = .ok (.iconst 2, 1) := by decide +kernel
theorem d_Lw_law_28 : decode code 28 = .ok (.isub, 1) := by decide +kernel
theorem d_Lw_law_29 : decode code 29 = .ok (.if_icmp .gt 341, 3) := by decide +kernel
theorem d_Lw_law_370 : decode code 370 = .ok (.iconst 1, 1) := by decide +kernel
theorem d_Lw_law_371 : decode code 371 = .ok (.ireturn, 1) := by decide +kernel
theorem d_Lw_law_0 : decode code 0 = .ok (.new 8, 3) := by decide +kernel
theorem d_Lw_law_3 : decode code 3 = .ok (.dup, 1) := by decide +kernel
theorem d_Lw_law_4 : decode code 4 = .ok (.invokespecial 33, 3) := by decide +kernel
theorem d_Lw_law_7 : decode code 7 = .ok (.astore_n 1, 1) := by decide +kernel
theorem d_Lw_law_8 : decode code 8 = .ok (.new 34, 3) := by decide +kernel
theorem d_Lw_law_11 : decode code 11 = .ok (.dup, 1) := by decide +kernel
theorem d_Lw_law_12 : decode code 12 = .ok (.invokespecial 36, 3) := by decide +kernel
theorem d_Lw_law_15 : decode code 15 = .ok (.astore_n 2, 1) := by decide +kernel
theorem d_Lw_law_16 : decode code 16 = .ok (.iconst 1, 1) := by decide +kernel
theorem d_Lw_law_17 : decode code 17 = .ok (.newarray .long, 2) := by decide +kernel
theorem d_Lw_law_19 : decode code 19 = .ok (.astore_n 3, 1) := by decide +kernel
theorem d_Lw_law_20 : decode code 20 = .ok (.iconst 0, 1) := by decide +kernel
theorem d_Lw_law_21 : decode code 21 = .ok (.istore 4, 2) := by decide +kernel
def R_law : String := "ClauseSearchLaw"
def lw_P (b : Addr) (xs : List Int32) (args : Array Value) (s : State) : Prop := args = #[.ref b] ∧ s.IntsAt b xs ∧ xs.length ≤ 2 ∧ (Jvm.Cond.and given_1 narrow_1).before args s = true
def lw_Q (_ : Array Value) (s : State) (o : Outcome) (t : State) : Prop := o = .returned (some (.int 1)) ∧ Framed s o t [] 600002 7302231
def lw_Z (below : List Frame) (a : Array Value) (s : State) : State → Prop := fun t => ∃ o, t.status = .running ∧ Ended t below o ∧ lw_Q a s o t
/-- the law's own end, with 1 on the stack, nothing written that was there before, its room as the claim has it -/
theorem lw_ret {p : Program} {l : Launch} {e : Env} {s : State} {m : MethodId} {below : List Frame} {meth : Method} {c : Code} {b : Nat} (hx : p.tables.exec = Jvm.exec) (hb : c.code = code) (hr : meth.sig.returnType = ret) (hlocks : meth.locks = false) {pc : Nat} {H : Heap} {ls : Array Slot} (hdg : decode code pc = .ok (.ireturn, 1)) : W p l e room_1 s m #[Value.ref b] below meth c H [] 600002 7302231 (lw_Z below #[Value.ref b] s) (F0 m pc ls [.int 1]) := by
  intro T hT X
  obtain ⟨fs, hret, hrun, hended, hW, hframe⟩ := X.leave (v := some (.int 1)) (hlocks := hlocks) (fun h => by rw [hr] at h; cases h)
  have hmeth' : T.vm.method? m = some meth := X.method'
  refine ⟨T.setFrames fs, ?_, .returned (some (.int 1)), hrun, hended, rfl, ⟨_, rfl⟩, hW, hframe⟩
  jvm_step X.here [X.here.top, hx, hb, hdg, hmeth', hr, ret, narrow_b1]
  (try refine ⟨rfl, ?_⟩); (try refine ⟨rfl, ?_⟩)
  first | (intro acts; rw [hret _ acts rfl rfl rfl]) | rw [hret _ _ rfl rfl rfl]
  exact Steps.refl _
/-- what holds at the law's entry: the machine, the code, the tables' words (any of lw_tbl by 'hts w (by decide +kernel)'), the script of L ints xs at the cell b, what the Statement gives of the start (any of its parts by flat_of_before) -/
def lw_At (p : Program) (s : State) (m : MethodId) (meth : Method) (c : Code) (b L : Nat) (xs : Nat → Int32) : Prop :=
  p.tables.exec = Jvm.exec ∧ c.code = code ∧ meth.sig.returnType = ret ∧ c.maxLocals = 7 ∧ s.vm.findClass R_law = some m.cls ∧ (∀ w ∈ lw_tbl, w.before #[Value.ref b] s = true) ∧ va_X b L xs s s.heap ∧ b < s.heap.size ∧ meth.locks = false ∧ (Jvm.Cond.and given_1 narrow_1).before #[Value.ref b] s = true
theorem lg_self (x : Int64) : lg_cmp x x = 0 := by simp [lg_cmp]
theorem tri_z (x : Int32) : x = 0 ∨ 0 < x ∨ x < -0 := by
  by_cases h : x = 0
  · exact Or.inl h
  · by_cases h2 : 0 < x
    · exact Or.inr (Or.inl h2)
    · refine Or.inr (Or.inr ?_)
      have h3 : x.toInt ≠ 0 := fun q => h (Int32.toInt_inj.mp (q.trans rfl))
      rw [Int32.lt_iff_toInt_lt] at h2 ⊢
      have h4 : (0 : Int32).toInt = 0 := rfl
      have h5 : (-0 : Int32).toInt = 0 := rfl
      omega
theorem one_z (x : Int32) : x < 1 ∨ 0 < x := by
  by_cases h : 0 < x
  · exact Or.inr h
  · refine Or.inl ?_
    rw [Int32.lt_iff_toInt_lt] at h ⊢
    have h4 : (0 : Int32).toInt = 0 := rfl
    have h5 : (1 : Int32).toInt = 1 := rfl
    omega
set_option maxHeartbeats 4000000 in
set_option maxRecDepth 100000 in
/-- the loop ends: the law answers true -/
theorem lw_exit {p : Program} {l : Launch} {e : Env} {s : State} {m : MethodId} {below : List Frame} {meth : Method} {c : Code} {b : Nat} {xs : Nat → Int32} {L cells slots : Nat} (C0 : lw_At p s m meth c b L xs) (hc : cells ≤ 600002) (hs : slots ≤ 7302231) (H : Heap) (locs : List Loc) (ls : Array Slot) (x4 : Int32) (hc9 : Int32.ofNat L - 2 < x4) (hS : va_S (fun q : Nat => s.heap.size ≤ q) s.heap H locs) (hl : lv_has ls 7 [(0, .ref b), (4, .int x4)]) : W p l e room_1 s m #[Value.ref b] below meth c H locs cells slots (lw_Z below #[Value.ref b] s) (F0 m 23 ls []) := by
  obtain ⟨hx, hb, hr, hml, hown, hts, hX, hbl, hlocks, hgv⟩ := C0
  have hw : ∀ w ∈ bg_W, w.before #[Value.ref b] s = true := fun w h => hts w (bg_sub w h)
  have hown : s.vm.findClass R_Lw = some m.cls := hown
  have hA : ∀ q : Nat, s.heap.size ≤ q → (fun q : Nat => s.heap.size ≤ q) q := fun _ h => h
  have hbA : ¬ (fun q : Nat => s.heap.size ≤ q) b := Nat.not_le.mpr hbl
  refine lv_iload hx hb d_Lw_law_23 (lv_at hl 1 rfl) ?_
  refine lv_aload_n hx hb d_Lw_law_25 rfl (lv_at hl 0 rfl) ?_
  refine va_slen hx hb hX hbl hbA hS d_Lw_law_26 ?_
  refine lv_iconst (v := 2) hx hb d_Lw_law_27 (by decide) ?_
  refine lv_isub hx hb d_Lw_law_28 ?_
  refine lv_icmp_gt (tgt := 370) hx hb d_Lw_law_29 (by decide) (fun c_29 => ?_) (fun c_29 => absurd c_29 (fun q => q hc9))
  refine lv_iconst (v := 1) hx hb d_Lw_law_370 (by decide) ?_
  refine va_forget (fun q hq => hS.2.2 q hq) ?_
  refine W.widen (k := 600002) (n := 7302231) hc hs ?_
  exact lw_ret hx hb hr hlocks d_Lw_law_371
end
section
theorem k_28 : (Cond.initialized "ClauseSearchLaw") ∈ bg_W := bg_in 28 (by decide +kernel) (by decide +kernel)
theorem k_445 : (Cond.methodLink "ClauseSearchLaw" 37 ⟨"ClauseSearchLaw", "variables", "(LClauseSearch;I[J)I"⟩) ∈ bg_W := bg_in 445 (by decide +kernel) (by decide +kernel)
theorem k_446 : (Cond.static ⟨"ClauseSearchLaw", "variables", "(LClauseSearch;I[J)I"⟩) ∈ bg_W := bg_in 446 (by decide +kernel) (by decide +kernel)
theorem k_447 : (Cond.codeWith ⟨"ClauseSearchLaw", "variables", "(LClauseSearch;I[J)I"⟩ method_3_code 4 (some .int) [(0, 9, 12, 13), (0, 9, 15, 15)]) ∈ bg_W := bg_in 447 (by decide +kernel) (by decide +kernel)
theorem k_650 : (Cond.methodLink "ClauseSearchLaw" 43 ⟨"ClauseSearchModel", "thrown", "()I"⟩) ∈ bg_W := bg_in 650 (by decide +kernel) (by decide +kernel)
theorem k_651 : (Cond.instanceMethod ⟨"ClauseSearchModel", "thrown", "()I"⟩) ∈ bg_W := bg_in 651 (by decide +kernel) (by decide +kernel)
theorem k_652 : (Cond.selects "ClauseSearchModel" ⟨"ClauseSearchModel", "thrown", "()I"⟩ ⟨"ClauseSearchModel", "thrown", "()I"⟩) ∈ bg_W := bg_in 652 (by decide +kernel) (by decide +kernel)
theorem k_653 : (Cond.code ⟨"ClauseSearchModel", "thrown", "()I"⟩ prog_9_method_2_code 1 (some .int)) ∈ bg_W := bg_in 653 (by decide +kernel) (by decide +kernel)
theorem k_654 : (Cond.methodLink "ClauseSearchLaw" 42 ⟨"ClauseSearchModel", "variables", "(I)I"⟩) ∈ bg_W := bg_in 654 (by decide +kernel) (by decide +kernel)
theorem k_655 : (Cond.instanceMethod ⟨"ClauseSearchModel", "variables", "(I)I"⟩) ∈ bg_W := bg_in 655 (by decide +kernel) (by decide +kernel)
theorem k_656 : (Cond.selects "ClauseSearchModel" ⟨"ClauseSearchModel", "variables", "(I)I"⟩ ⟨"ClauseSearchModel", "variables", "(I)I"⟩) ∈ bg_W := bg_in 656 (by decide +kernel) (by decide +kernel)
theorem k_657 : (Cond.code ⟨"ClauseSearchModel", "variables", "(I)I"⟩ prog_9_method_4_code 2 (some .int)) ∈ bg_W := bg_in 657 (by decide +kernel) (by decide +kernel)
theorem d_Lw_law_76 : decode code 76 = .ok (.aload_n 1, 1) := by decide +kernel
theorem d_Lw_law_77 : decode code 77 = .ok (.aload_n 0, 1) := by decide +kernel
theorem d_Lw_law_78 : decode code 78 = .ok (.iload 4, 2) := by decide +kernel
theorem d_Lw_law_80 : decode code 80 = .ok (.iconst 1, 1) := by decide +kernel
theorem d_Lw_law_81 : decode code 81 = .ok (.iadd, 1) := by decide +kernel
theorem d_Lw_law_82 : decode code 82 = .ok (.iaload, 1) := by decide +kernel
theorem d_Lw_law_83 : decode code 83 = .ok (.aload_n 3, 1) := by decide +kernel
theorem d_Lw_law_84 : decode code 84 = .ok (.invokestatic 37, 3) := by decide +kernel
theorem d_Lw_law_87 : decode code 87 = .ok (.istore 5, 2) := by decide +kernel
theorem d_Lw_law_89 : decode code 89 = .ok (.aload_n 2, 1) := by decide +kernel
theorem d_Lw_law_90 : decode code 90 = .ok (.aload_n 0, 1) := by decide +kernel
theorem d_Lw_law_91 : decode code 91 = .ok (.iload 4, 2) := by decide +kernel
theorem d_Lw_law_93 : decode code 93 = .ok (.iconst 1, 1) := by decide +kernel
theorem d_Lw_law_94 : decode code 94 = .ok (.iadd, 1) := by decide +kernel
theorem d_Lw_law_95 : decode code 95 = .ok (.iaload, 1) := by decide +kernel
theorem d_Lw_law_96 : decode code 96 = .ok (.invokevirtual 42, 3) := by decide +kernel
theorem d_Lw_law_99 : decode code 99 = .ok (.istore 6, 2) := by decide +kernel
theorem d_Lw_law_101 : decode code 101 = .ok (.aload_n 2, 1) := by decide +kernel
theorem d_Lw_law_102 : decode code 102 = .ok (.invokevirtual 43, 3) := by decide +kernel
theorem d_Lw_law_105 : decode code 105 = .ok (.iload 5, 2) := by decide +kernel
theorem d_Lw_law_107 : decode code 107 = .ok (.if_icmp .eq 5, 3) := by decide +kernel
theorem d_Lw_law_112 : decode code 112 = .ok (.iload 5, 2) := by decide +kernel
theorem d_Lw_law_114 : decode code 114 = .ok (.ifCond .ne 15, 3) := by decide +kernel
theorem d_Lw_law_129 : decode code 129 = .ok (.goto 235, 3) := by decide +kernel
theorem d_Lw_law_364 : decode code 364 = .ok (.iinc 4 2, 3) := by decide +kernel
theorem d_Lw_law_367 : decode code 367 = .ok (.goto (-344), 3) := by decide +kernel
theorem d_Lw_law_117 : decode code 117 = .ok (.aload_n 3, 1) := by decide +kernel
theorem d_Lw_law_118 : decode code 118 = .ok (.iconst 0, 1) := by decide +kernel
theorem d_Lw_law_119 : decode code 119 = .ok (.laload, 1) := by decide +kernel
theorem d_Lw_law_120 : decode code 120 = .ok (.iload 6, 2) := by decide +kernel
theorem d_Lw_law_122 : decode code 122 = .ok (.i2l, 1) := by decide +kernel
theorem d_Lw_law_123 : decode code 123 = .ok (.lcmp, 1) := by decide +kernel
theorem d_Lw_law_124 : decode code 124 = .ok (.ifCond .eq 5, 3) := by decide +kernel
set_option maxHeartbeats 4000000 in
set_option maxRecDepth 100000 in
/-- case 0 -/
theorem lw_c0 {p : Program} {l : Launch} {e : Env} {s : State} {m : MethodId} {below : List Frame} {meth : Method} {c : Code} {dC : Nat → ClassId} {dI : Nat → Nat → Nat} {b : Nat} {xs : Nat → Int32} (hfl : l.flags = pinnedFlags ++ [noTraceFlag]) (C1 : lw_At p s m meth c b 2 xs) (hZ0 : tw_Z s s.heap s.heap.size) (h0 b0 b1 s0 b3 g0 g1 g2 r0 t0 w0 l0 k0 v0 v1 v2 u0 u1 u2 u3 u4 y0 y1 m0 j0 j1 j2 j3 j4 j5 j6 j7 o0 : Nat) (ca cl : ClassId) (fw : Nat → Int32) (fo : Nat → Int64) (H : Heap) (locs : List Loc) (ls : Array Slot) (hK : va_K (dC, dI) vwCl [(ca, .int), (cl, .long)] s) (hP : va_P (dC, dI) vwCl [(h0, .inr (6, [.ref b0, .ref b1, .ref s0, .ref b3, .int 0, .int 0, .int 0, .int 0])), (b1, .inr (2, [.ref g0, .ref g1, .ref g2, .int 0])), (s0, .inr (3, [.ref r0, .ref t0, .ref w0, .ref l0, .ref k0, .ref v0, .ref v1, .ref v2, .int 0, .int 0, .int 0, .int 0])), (t0, .inr (4, [.ref u0, .ref u1, .ref u2, .ref u3, .ref u4, .int 0, .int 0, .int 0, .int 1])), (w0, .inr (5, [.ref r0, .ref t0, .ref y0, .ref y1])), (m0, .inr (7, [.ref j0, .ref j1, .ref j2, .ref j3, .ref j4, .int 0, .int 0, .int 0, .int 0, .int 0, .int 0, .ref j5, .int 0, .ref j6, .ref j7])), (j4, .inl (ca, 401, .inl fw)), (o0, .inl (cl, 1, .inr (.inl fo)))] H) (hD : va_D (fun q : Nat => s.heap.size ≤ q) [(h0, .inr (6, [.ref b0, .ref b1, .ref s0, .ref b3, .int 0, .int 0, .int 0, .int 0])), (b1, .inr (2, [.ref g0, .ref g1, .ref g2, .int 0])), (s0, .inr (3, [.ref r0, .ref t0, .ref w0, .ref l0, .ref k0, .ref v0, .ref v1, .ref v2, .int 0, .int 0, .int 0, .int 0])), (t0, .inr (4, [.ref u0, .ref u1, .ref u2, .ref u3, .ref u4, .int 0, .int 0, .int 0, .int 1])), (w0, .inr (5, [.ref r0, .ref t0, .ref y0, .ref y1])), (m0, .inr (7, [.ref j0, .ref j1, .ref j2, .ref j3, .ref j4, .int 0, .int 0, .int 0, .int 0, .int 0, .int 0, .ref j5, .int 0, .ref j6, .ref j7])), (j4, .inl (ca, 401, .inl fw)), (o0, .inl (cl, 1, .inr (.inl fo)))]) (hS : va_S (fun q : Nat => s.heap.size ≤ q) s.heap H locs) (hl : lv_has ls 7 [(0, .ref b), (1, .ref h0), (2, .ref m0), (3, .ref o0), (4, .int 0)]) : W p l e room_1 s m #[Value.ref b] below meth c H locs 45 95481 (lw_Z below #[Value.ref b] s) (F0 m 76 ls []) := by
  obtain ⟨hx, hb, hr, hml, hown, hts, hX, hbl, hlocks, hgv⟩ := id C1
  have hw : ∀ w ∈ bg_W, w.before #[Value.ref b] s = true := fun w h => hts w (bg_sub w h)
  have hown : s.vm.findClass R_Lw = some m.cls := hown
  have hA : ∀ q : Nat, s.heap.size ≤ q → (fun q : Nat => s.heap.size ≤ q) q := fun _ h => h
  have hbA : ¬ (fun q : Nat => s.heap.size ≤ q) b := Nat.not_le.mpr hbl
  by_cases hc : xs ((0 + 1) : Int32).toNatClampNeg < 1 ∨ 400 < xs ((0 + 1) : Int32).toNatClampNeg
  · refine lv_aload_n hx hb d_Lw_law_76 rfl (lv_at hl 1 rfl) ?_
    refine lv_aload_n hx hb d_Lw_law_77 rfl (lv_at hl 0 rfl) ?_
    refine lv_iload hx hb d_Lw_law_78 (lv_at hl 4 rfl) ?_
    refine lv_iconst (v := 1) hx hb d_Lw_law_80 (by decide) ?_
    refine lv_iadd hx hb d_Lw_law_81 ?_
    refine va_sld hx hb hX hbl hbA hS (by unfold vp_in; decide) d_Lw_law_82 ?_
    refine lv_aload_n hx hb d_Lw_law_83 rfl (lv_at hl 3 rfl) ?_
    have hZ : tw_Z s H s.heap.size := hZ0.kept (fun a ha => hS.2.1 a ha (Nat.not_le.mpr ha))
    have hPc := hP.sub (ws' := [(h0, .inr (6, [.ref b0, .ref b1, .ref s0, .ref b3, .int 0, .int 0, .int 0, .int 0])), (o0, .inl (cl, 1, .inr (.inl fo)))]) [0, 7] rfl
    have hDc := hD.sub (ws' := [(h0, .inr (6, [.ref b0, .ref b1, .ref s0, .ref b3, .int 0, .int 0, .int 0, .int 0])), (o0, .inl (cl, 1, .inr (.inl fo)))]) [0, 7] (by decide) rfl
    have hKc := hK.sub (tys' := [(cl, .long)]) [1] rfl
    have hFc := va_free (wc := [(h0, .inr (6, [.ref b0, .ref b1, .ref s0, .ref b3, .int 0, .int 0, .int 0, .int 0])), (o0, .inl (cl, 1, .inr (.inl fo)))]) hD hS hA [0, 7] rfl
    refine va_calli (th_runS (n := 3) (As := [.ref h0, .int (xs (0 + 1 : Int32).toNatClampNeg), .ref o0]) (rest := []) ⟨hx, hb, hml, hown, hw⟩ (c_Lw_variables_1 l hfl dC dI h0 b0 b1 s0 b3 o0 cl H.size s.heap.size 0 0 0 0 (xs (0 + 1 : Int32).toNatClampNeg) fo hc) k_447 k_28 k_445 k_446 rfl rfl (by decide +kernel) ⟨Nat.le_of_ble_eq_true rfl, Nat.le_of_ble_eq_true rfl⟩ ⟨fun a U g mk q => by obtain ⟨q0, q1, qP, qK, qD, qZ⟩ := q; exact ⟨q0, q1, qP, va_K.moved (u := U) (U := U.calling g mk a) (Vm.Alike.refl U.vm) qK, qD, tw_Z.moved (u := U) (U := U.calling g mk a) (Vm.Alike.refl U.vm) qZ⟩, fun U hU hW => ⟨rfl, by rw [hU], by rw [hU]; exact hPc, va_K.moved hW.alike hKc, hDc.weaken (fun _ _ _ _ => trivial), by rw [hU]; exact hZ.moved hW.alike⟩⟩ rfl rfl hl.1 rfl (lv_room (Nat.le_of_ble_eq_true rfl)) d_Lw_law_84 ⟨Nat.le_of_ble_eq_true rfl, Nat.le_of_ble_eq_true rfl⟩) hS (fun q _ h => hFc q h) hFc (fun r_1 u t H1 locs ht hvm hw9 hB hz1 hk1 hS => ?_)
    obtain ⟨hP1, hK1, hD1⟩ := hB
    rw [ht] at hP1
    have hK1 := va_K.moved hvm.symm hK1
    obtain ⟨hP, hD⟩ := va_join (wr := [(b1, .inr (2, [.ref g0, .ref g1, .ref g2, .int 0])), (s0, .inr (3, [.ref r0, .ref t0, .ref w0, .ref l0, .ref k0, .ref v0, .ref v1, .ref v2, .int 0, .int 0, .int 0, .int 0])), (t0, .inr (4, [.ref u0, .ref u1, .ref u2, .ref u3, .ref u4, .int 0, .int 0, .int 0, .int 1])), (w0, .inr (5, [.ref r0, .ref t0, .ref y0, .ref y1])), (m0, .inr (7, [.ref j0, .ref j1, .ref j2, .ref j3, .ref j4, .int 0, .int 0, .int 0, .int 0, .int 0, .int 0, .ref j5, .int 0, .ref j6, .ref j7])), (j4, .inl (ca, 401, .inl fw))]) (w1 := [(h0, .inr (6, [.ref b0, .ref b1, .ref s0, .ref b3, .int 0, .int 0, .int 0, .int 0])), (o0, .inl (cl, 1, .inr (.inl fo)))]) hP hD [0, 7] [1, 2, 3, 4, 5, 6] rfl rfl (by decide) (by decide) hk1 hFc hP1 hD1
    generalize H1 = H at hP hS ⊢
    have hP : va_P (dC, dI) vwCl [(b1, .inr (2, [.ref g0, .ref g1, .ref g2, .int 0])), (s0, .inr (3, [.ref r0, .ref t0, .ref w0, .ref l0, .ref k0, .ref v0, .ref v1, .ref v2, .int 0, .int 0, .int 0, .int 0])), (t0, .inr (4, [.ref u0, .ref u1, .ref u2, .ref u3, .ref u4, .int 0, .int 0, .int 0, .int 1])), (w0, .inr (5, [.ref r0, .ref t0, .ref y0, .ref y1])), (m0, .inr (7, [.ref j0, .ref j1, .ref j2, .ref j3, .ref j4, .int 0, .int 0, .int 0, .int 0, .int 0, .int 0, .ref j5, .int 0, .ref j6, .ref j7])), (j4, .inl (ca, 401, .inl fw)), (h0, .inr (6, [.ref b0, .ref b1, .ref s0, .ref b3, .int 0, .int 0, .int 0, .int 0])), (o0, .inl (cl, 1, .inr (.inl fo)))] H := hP
    have hD : va_D (fun q : Nat => s.heap.size ≤ q) [(b1, .inr (2, [.ref g0, .ref g1, .ref g2, .int 0])), (s0, .inr (3, [.ref r0, .ref t0, .ref w0, .ref l0, .ref k0, .ref v0, .ref v1, .ref v2, .int 0, .int 0, .int 0, .int 0])), (t0, .inr (4, [.ref u0, .ref u1, .ref u2, .ref u3, .ref u4, .int 0, .int 0, .int 0, .int 1])), (w0, .inr (5, [.ref r0, .ref t0, .ref y0, .ref y1])), (m0, .inr (7, [.ref j0, .ref j1, .ref j2, .ref j3, .ref j4, .int 0, .int 0, .int 0, .int 0, .int 0, .int 0, .ref j5, .int 0, .ref j6, .ref j7])), (j4, .inl (ca, 401, .inl fw)), (h0, .inr (6, [.ref b0, .ref b1, .ref s0, .ref b3, .int 0, .int 0, .int 0, .int 0])), (o0, .inl (cl, 1, .inr (.inl fo)))] := hD
    refine W.widen (k := 46) (n := 95487) (by decide) (by decide) ?_
    have hw9 : r_1 = 1 := hw9
    subst hw9
    refine lv_istore (lv' := [(5, .int 1), (0, .ref b), (1, .ref h0), (2, .ref m0), (3, .ref o0), (4, .int 0)]) hx hb d_Lw_law_87 hl (by decide) rfl (fun ls hl => ?_)
    refine lv_aload_n hx hb d_Lw_law_89 rfl (lv_at hl 3 rfl) ?_
    refine lv_aload_n hx hb d_Lw_law_90 rfl (lv_at hl 1 rfl) ?_
    refine lv_iload hx hb d_Lw_law_91 (lv_at hl 5 rfl) ?_
    refine lv_iconst (v := 1) hx hb d_Lw_law_93 (by decide) ?_
    refine lv_iadd hx hb d_Lw_law_94 ?_
    refine va_sld hx hb hX hbl hbA hS (by unfold vp_in; decide) d_Lw_law_95 ?_
    have hPc := hP.sub (ws' := [(m0, .inr (7, [.ref j0, .ref j1, .ref j2, .ref j3, .ref j4, .int 0, .int 0, .int 0, .int 0, .int 0, .int 0, .ref j5, .int 0, .ref j6, .ref j7]))]) [4] rfl
    have hDc := hD.sub (ws' := [(m0, .inr (7, [.ref j0, .ref j1, .ref j2, .ref j3, .ref j4, .int 0, .int 0, .int 0, .int 0, .int 0, .int 0, .ref j5, .int 0, .ref j6, .ref j7]))]) [4] (by decide) rfl
    have hKc := hK.sub (tys' := []) [] rfl
    have hFc := va_free (wc := [(m0, .inr (7, [.ref j0, .ref j1, .ref j2, .ref j3, .ref j4, .int 0, .int 0, .int 0, .int 0, .int 0, .int 0, .ref j5, .int 0, .ref j6, .ref j7]))]) hD hS hA [4] rfl
    refine va_calli (va_runV (As := [.int (xs (0 + 1 : Int32).toNatClampNeg)]) (rest := []) ⟨hx, hb, hml, hown, hw⟩ (c_Md_variables_1 l dC dI m0 j0 j1 j2 j3 j4 j5 j6 j7 H.size 0 0 0 0 0 0 0 (xs (0 + 1 : Int32).toNatClampNeg) hc) (cb_V (C := R_Md) 1 hw k_657 k_37 k_654 k_655 k_656 rfl rfl (by decide +kernel) ⟨Nat.le_of_ble_eq_true rfl, Nat.le_of_ble_eq_true rfl⟩) ⟨fun a U g mk q => by obtain ⟨q0, q1, qP, qK, qD⟩ := q; exact ⟨q0, q1, qP, va_K.moved (u := U) (U := U.calling g mk a) (Vm.Alike.refl U.vm) qK, qD⟩, va_recv hKc hPc (ci := 7) (q0 := 0) rfl rfl, fun U hU hW => ⟨rfl, by rw [hU], by rw [hU]; exact hPc, va_K.moved hW.alike hKc, hDc.weaken (fun _ _ _ _ => trivial)⟩⟩ rfl rfl hl.1 rfl (lv_room (Nat.le_of_ble_eq_true rfl)) d_Lw_law_96 ⟨Nat.le_of_ble_eq_true rfl, Nat.le_of_ble_eq_true rfl⟩) hS (fun q _ h => hFc q h) hFc (fun r_2 u t H1 locs ht hvm hw9 hB hz1 hk1 hS => ?_)
    obtain ⟨hP1, hK1, hD1⟩ := hB
    rw [ht] at hP1
    have hK1 := va_K.moved hvm.symm hK1
    obtain ⟨hP, hD⟩ := va_join (wr := [(b1, .inr (2, [.ref g0, .ref g1, .ref g2, .int 0])), (s0, .inr (3, [.ref r0, .ref t0, .ref w0, .ref l0, .ref k0, .ref v0, .ref v1, .ref v2, .int 0, .int 0, .int 0, .int 0])), (t0, .inr (4, [.ref u0, .ref u1, .ref u2, .ref u3, .ref u4, .int 0, .int 0, .int 0, .int 1])), (w0, .inr (5, [.ref r0, .ref t0, .ref y0, .ref y1])), (j4, .inl (ca, 401, .inl fw)), (h0, .inr (6, [.ref b0, .ref b1, .ref s0, .ref b3, .int 0, .int 0, .int 0, .int 0])), (o0, .inl (cl, 1, .inr (.inl fo)))]) (w1 := [(m0, .inr (7, [.ref j0, .ref j1, .ref j2, .ref j3, .ref j4, .int 0, .int 0, .int 0, .int 0, .int 0, .int 1, .ref j5, .int 0, .ref j6, .ref j7]))]) hP hD [4] [0, 1, 2, 3, 5, 6, 7] rfl rfl (by decide) (by decide) hk1 hFc hP1 hD1
    generalize H1 = H at hP hS ⊢
    have hP : va_P (dC, dI) vwCl [(b1, .inr (2, [.ref g0, .ref g1, .ref g2, .int 0])), (s0, .inr (3, [.ref r0, .ref t0, .ref w0, .ref l0, .ref k0, .ref v0, .ref v1, .ref v2, .int 0, .int 0, .int 0, .int 0])), (t0, .inr (4, [.ref u0, .ref u1, .ref u2, .ref u3, .ref u4, .int 0, .int 0, .int 0, .int 1])), (w0, .inr (5, [.ref r0, .ref t0, .ref y0, .ref y1])), (j4, .inl (ca, 401, .inl fw)), (h0, .inr (6, [.ref b0, .ref b1, .ref s0, .ref b3, .int 0, .int 0, .int 0, .int 0])), (o0, .inl (cl, 1, .inr (.inl fo))), (m0, .inr (7, [.ref j0, .ref j1, .ref j2, .ref j3, .ref j4, .int 0, .int 0, .int 0, .int 0, .int 0, .int 1, .ref j5, .int 0, .ref j6, .ref j7]))] H := hP
    have hD : va_D (fun q : Nat => s.heap.size ≤ q) [(b1, .inr (2, [.ref g0, .ref g1, .ref g2, .int 0])), (s0, .inr (3, [.ref r0, .ref t0, .ref w0, .ref l0, .ref k0, .ref v0, .ref v1, .ref v2, .int 0, .int 0, .int 0, .int 0])), (t0, .inr (4, [.ref u0, .ref u1, .ref u2, .ref u3, .ref u4, .int 0, .int 0, .int 0, .int 1])), (w0, .inr (5, [.ref r0, .ref t0, .ref y0, .ref y1])), (j4, .inl (ca, 401, .inl fw)), (h0, .inr (6, [.ref b0, .ref b1, .ref s0, .ref b3, .int 0, .int 0, .int 0, .int 0])), (o0, .inl (cl, 1, .inr (.inl fo))), (m0, .inr (7, [.ref j0, .ref j1, .ref j2, .ref j3, .ref j4, .int 0, .int 0, .int 0, .int 0, .int 0, .int 1, .ref j5, .int 0, .ref j6, .ref j7]))] := hD
    refine W.widen (k := 46) (n := 95487) (by decide) (by decide) ?_
    have hw9 : r_2 = 0 := hw9
    subst hw9
    refine lv_istore (lv' := [(6, .int 0), (5, .int 1), (0, .ref b), (1, .ref h0), (2, .ref m0), (3, .ref o0), (4, .int 0)]) hx hb d_Lw_law_99 hl (by decide) rfl (fun ls hl => ?_)
    refine lv_aload_n hx hb d_Lw_law_101 rfl (lv_at hl 4 rfl) ?_
    have hPc := hP.sub (ws' := [(m0, .inr (7, [.ref j0, .ref j1, .ref j2, .ref j3, .ref j4, .int 0, .int 0, .int 0, .int 0, .int 0, .int 1, .ref j5, .int 0, .ref j6, .ref j7]))]) [7] rfl
    have hDc := hD.sub (ws' := [(m0, .inr (7, [.ref j0, .ref j1, .ref j2, .ref j3, .ref j4, .int 0, .int 0, .int 0, .int 0, .int 0, .int 1, .ref j5, .int 0, .ref j6, .ref j7]))]) [7] (by decide) rfl
    have hKc := hK.sub (tys' := []) [] rfl
    have hFc := va_free (wc := [(m0, .inr (7, [.ref j0, .ref j1, .ref j2, .ref j3, .ref j4, .int 0, .int 0, .int 0, .int 0, .int 0, .int 1, .ref j5, .int 0, .ref j6, .ref j7]))]) hD hS hA [7] rfl
    refine va_calli (va_runV (As := []) (rest := []) ⟨hx, hb, hml, hown, hw⟩ (c_Md_thrown l dC dI m0 j0 j1 j2 j3 j4 j5 j6 j7 H.size 0 0 0 0 0 1 0) (cb_V (C := R_Md) 0 hw k_653 k_37 k_650 k_651 k_652 rfl rfl (by decide +kernel) ⟨Nat.le_of_ble_eq_true rfl, Nat.le_of_ble_eq_true rfl⟩) ⟨fun a U g mk q => by obtain ⟨q0, q1, qP, qK, qD⟩ := q; exact ⟨q0, q1, qP, va_K.moved (u := U) (U := U.calling g mk a) (Vm.Alike.refl U.vm) qK, qD⟩, va_recv hKc hPc (ci := 7) (q0 := 0) rfl rfl, fun U hU hW => ⟨rfl, by rw [hU], by rw [hU]; exact hPc, va_K.moved hW.alike hKc, hDc.weaken (fun _ _ _ _ => trivial)⟩⟩ rfl rfl hl.1 rfl (lv_room (Nat.le_of_ble_eq_true rfl)) d_Lw_law_102 ⟨Nat.le_of_ble_eq_true rfl, Nat.le_of_ble_eq_true rfl⟩) hS (fun q _ h => hFc q h) hFc (fun r_3 u t H1 locs ht hvm hw9 hB hz1 hk1 hS => ?_)
    obtain ⟨hP1, hK1, hD1⟩ := hB
    rw [ht] at hP1
    have hK1 := va_K.moved hvm.symm hK1
    obtain ⟨hP, hD⟩ := va_join (wr := [(b1, .inr (2, [.ref g0, .ref g1, .ref g2, .int 0])), (s0, .inr (3, [.ref r0, .ref t0, .ref w0, .ref l0, .ref k0, .ref v0, .ref v1, .ref v2, .int 0, .int 0, .int 0, .int 0])), (t0, .inr (4, [.ref u0, .ref u1, .ref u2, .ref u3, .ref u4, .int 0, .int 0, .int 0, .int 1])), (w0, .inr (5, [.ref r0, .ref t0, .ref y0, .ref y1])), (j4, .inl (ca, 401, .inl fw)), (h0, .inr (6, [.ref b0, .ref b1, .ref s0, .ref b3, .int 0, .int 0, .int 0, .int 0])), (o0, .inl (cl, 1, .inr (.inl fo)))]) (w1 := [(m0, .inr (7, [.ref j0, .ref j1, .ref j2, .ref j3, .ref j4, .int 0, .int 0, .int 0, .int 0, .int 0, .int 1, .ref j5, .int 0, .ref j6, .ref j7]))]) hP hD [7] [0, 1, 2, 3, 4, 5, 6] rfl rfl (by decide) (by decide) hk1 hFc hP1 hD1
    generalize H1 = H at hP hS ⊢
    have hP : va_P (dC, dI) vwCl [(b1, .inr (2, [.ref g0, .ref g1, .ref g2, .int 0])), (s0, .inr (3, [.ref r0, .ref t0, .ref w0, .ref l0, .ref k0, .ref v0, .ref v1, .ref v2, .int 0, .int 0, .int 0, .int 0])), (t0, .inr (4, [.ref u0, .ref u1, .ref u2, .ref u3, .ref u4, .int 0, .int 0, .int 0, .int 1])), (w0, .inr (5, [.ref r0, .ref t0, .ref y0, .ref y1])), (j4, .inl (ca, 401, .inl fw)), (h0, .inr (6, [.ref b0, .ref b1, .ref s0, .ref b3, .int 0, .int 0, .int 0, .int 0])), (o0, .inl (cl, 1, .inr (.inl fo))), (m0, .inr (7, [.ref j0, .ref j1, .ref j2, .ref j3, .ref j4, .int 0, .int 0, .int 0, .int 0, .int 0, .int 1, .ref j5, .int 0, .ref j6, .ref j7]))] H := hP
    have hD : va_D (fun q : Nat => s.heap.size ≤ q) [(b1, .inr (2, [.ref g0, .ref g1, .ref g2, .int 0])), (s0, .inr (3, [.ref r0, .ref t0, .ref w0, .ref l0, .ref k0, .ref v0, .ref v1, .ref v2, .int 0, .int 0, .int 0, .int 0])), (t0, .inr (4, [.ref u0, .ref u1, .ref u2, .ref u3, .ref u4, .int 0, .int 0, .int 0, .int 1])), (w0, .inr (5, [.ref r0, .ref t0, .ref y0, .ref y1])), (j4, .inl (ca, 401, .inl fw)), (h0, .inr (6, [.ref b0, .ref b1, .ref s0, .ref b3, .int 0, .int 0, .int 0, .int 0])), (o0, .inl (cl, 1, .inr (.inl fo))), (m0, .inr (7, [.ref j0, .ref j1, .ref j2, .ref j3, .ref j4, .int 0, .int 0, .int 0, .int 0, .int 0, .int 1, .ref j5, .int 0, .ref j6, .ref j7]))] := hD
    refine W.widen (k := 46) (n := 95487) (by decide) (by decide) ?_
    have hw9 : r_3 = 1 := hw9
    subst hw9
    refine lv_iload hx hb d_Lw_law_105 (lv_at hl 1 rfl) ?_
    refine lv_icmp_eq (tgt := 112) hx hb d_Lw_law_107 (by decide) (fun c_107 => ?_) (fun c_107 => absurd c_107 (by decide))
    refine lv_iload hx hb d_Lw_law_112 (lv_at hl 1 rfl) ?_
    refine lv_if_ne (tgt := 129) hx hb d_Lw_law_114 (by decide) (fun c_114 => ?_) (fun c_114 => absurd c_114 (by decide))
    refine lv_goto (tgt := 364) hx hb d_Lw_law_129 (by decide) ?_
    obtain ⟨v_4, ev_4⟩ : ∃ y : Int32, y = 0 + 2 := ⟨_, rfl⟩
    refine lv_iinc (v := v_4) (lv' := [(4, .int v_4), (6, .int 0), (5, .int 1), (0, .ref b), (1, .ref h0), (2, .ref m0), (3, .ref o0)]) hx hb d_Lw_law_364 hl (k := 6) rfl (by rw [ev_4]; rfl) (by decide) rfl (fun ls hl => ?_)
    refine lv_goto (tgt := 23) hx hb d_Lw_law_367 (by decide) ?_
    exact lw_exit C1 (by decide) (by decide) _ _ ls v_4 (by rw [ev_4]; decide) hS (lv_sub hl [3, 0] rfl)
  · refine lv_aload_n hx hb d_Lw_law_76 rfl (lv_at hl 1 rfl) ?_
    refine lv_aload_n hx hb d_Lw_law_77 rfl (lv_at hl 0 rfl) ?_
    refine lv_iload hx hb d_Lw_law_78 (lv_at hl 4 rfl) ?_
    refine lv_iconst (v := 1) hx hb d_Lw_law_80 (by decide) ?_
    refine lv_iadd hx hb d_Lw_law_81 ?_
    refine va_sld hx hb hX hbl hbA hS (by unfold vp_in; decide) d_Lw_law_82 ?_
    refine lv_aload_n hx hb d_Lw_law_83 rfl (lv_at hl 3 rfl) ?_
    have hPc := hP.sub (ws' := [(h0, .inr (6, [.ref b0, .ref b1, .ref s0, .ref b3, .int 0, .int 0, .int 0, .int 0])), (o0, .inl (cl, 1, .inr (.inl fo)))]) [0, 7] rfl
    have hDc := hD.sub (ws' := [(h0, .inr (6, [.ref b0, .ref b1, .ref s0, .ref b3, .int 0, .int 0, .int 0, .int 0])), (o0, .inl (cl, 1, .inr (.inl fo)))]) [0, 7] (by decide) rfl
    have hKc := hK.sub (tys' := [(cl, .long)]) [1] rfl
    have hFc := va_free (wc := [(h0, .inr (6, [.ref b0, .ref b1, .ref s0, .ref b3, .int 0, .int 0, .int 0, .int 0])), (o0, .inl (cl, 1, .inr (.inl fo)))]) hD hS hA [0, 7] rfl
    refine va_calli (th_runS (n := 3) (As := [.ref h0, .int (xs (0 + 1 : Int32).toNatClampNeg), .ref o0]) (rest := []) ⟨hx, hb, hml, hown, hw⟩ (c_Lw_variables l dC dI h0 b0 b1 s0 b3 o0 cl H.size 0 0 0 0 (xs (0 + 1 : Int32).toNatClampNeg) fo (fun q => hc (Or.inl q)) (Int32.not_lt.mp (fun q => hc (Or.inr q))) (by rw [Int32.zero_add]; exact Int32.not_lt.mp (fun q => hc (Or.inr q)))) k_447 k_28 k_445 k_446 rfl rfl (by decide +kernel) ⟨Nat.le_of_ble_eq_true rfl, Nat.le_of_ble_eq_true rfl⟩ ⟨fun a U g mk q => by obtain ⟨q0, q1, qP, qK, qD⟩ := q; exact ⟨q0, q1, qP, va_K.moved (u := U) (U := U.calling g mk a) (Vm.Alike.refl U.vm) qK, qD⟩, fun U hU hW => ⟨rfl, by rw [hU], by rw [hU]; exact hPc, va_K.moved hW.alike hKc, hDc.weaken (fun _ _ _ _ => trivial)⟩⟩ rfl rfl hl.1 rfl (lv_room (Nat.le_of_ble_eq_true rfl)) d_Lw_law_84 ⟨Nat.le_of_ble_eq_true rfl, Nat.le_of_ble_eq_true rfl⟩) hS (fun q _ h => hFc q h) hFc (fun r_5 u t H1 locs ht hvm hw9 hB hz1 hk1 hS => ?_)
    obtain ⟨hP1, hK1, hD1⟩ := hB
    rw [ht] at hP1
    have hK1 := va_K.moved hvm.symm hK1
    obtain ⟨hP, hD⟩ := va_join (wr := [(b1, .inr (2, [.ref g0, .ref g1, .ref g2, .int 0])), (s0, .inr (3, [.ref r0, .ref t0, .ref w0, .ref l0, .ref k0, .ref v0, .ref v1, .ref v2, .int 0, .int 0, .int 0, .int 0])), (t0, .inr (4, [.ref u0, .ref u1, .ref u2, .ref u3, .ref u4, .int 0, .int 0, .int 0, .int 1])), (w0, .inr (5, [.ref r0, .ref t0, .ref y0, .ref y1])), (m0, .inr (7, [.ref j0, .ref j1, .ref j2, .ref j3, .ref j4, .int 0, .int 0, .int 0, .int 0, .int 0, .int 0, .ref j5, .int 0, .ref j6, .ref j7])), (j4, .inl (ca, 401, .inl fw))]) (w1 := [(o0, .inl (cl, 1, .inr (.inl (vp_updL fo ((0 : Int32).toNatClampNeg) ((0 + xs (0 + 1 : Int32).toNatClampNeg : Int32).toInt64))))), (h0, .inr (6, [.ref b0, .ref b1, .ref s0, .ref b3, .int 0, .int (0 + xs (0 + 1 : Int32).toNatClampNeg), .int 0, .int 0]))]) hP hD [0, 7] [1, 2, 3, 4, 5, 6] rfl rfl (by decide) (by decide) hk1 hFc hP1 hD1
    generalize H1 = H at hP hS ⊢
    have hP : va_P (dC, dI) vwCl [(b1, .inr (2, [.ref g0, .ref g1, .ref g2, .int 0])), (s0, .inr (3, [.ref r0, .ref t0, .ref w0, .ref l0, .ref k0, .ref v0, .ref v1, .ref v2, .int 0, .int 0, .int 0, .int 0])), (t0, .inr (4, [.ref u0, .ref u1, .ref u2, .ref u3, .ref u4, .int 0, .int 0, .int 0, .int 1])), (w0, .inr (5, [.ref r0, .ref t0, .ref y0, .ref y1])), (m0, .inr (7, [.ref j0, .ref j1, .ref j2, .ref j3, .ref j4, .int 0, .int 0, .int 0, .int 0, .int 0, .int 0, .ref j5, .int 0, .ref j6, .ref j7])), (j4, .inl (ca, 401, .inl fw)), (o0, .inl (cl, 1, .inr (.inl (vp_updL fo ((0 : Int32).toNatClampNeg) ((0 + xs (0 + 1 : Int32).toNatClampNeg : Int32).toInt64))))), (h0, .inr (6, [.ref b0, .ref b1, .ref s0, .ref b3, .int 0, .int (0 + xs (0 + 1 : Int32).toNatClampNeg), .int 0, .int 0]))] H := hP
    have hD : va_D (fun q : Nat => s.heap.size ≤ q) [(b1, .inr (2, [.ref g0, .ref g1, .ref g2, .int 0])), (s0, .inr (3, [.ref r0, .ref t0, .ref w0, .ref l0, .ref k0, .ref v0, .ref v1, .ref v2, .int 0, .int 0, .int 0, .int 0])), (t0, .inr (4, [.ref u0, .ref u1, .ref u2, .ref u3, .ref u4, .int 0, .int 0, .int 0, .int 1])), (w0, .inr (5, [.ref r0, .ref t0, .ref y0, .ref y1])), (m0, .inr (7, [.ref j0, .ref j1, .ref j2, .ref j3, .ref j4, .int 0, .int 0, .int 0, .int 0, .int 0, .int 0, .ref j5, .int 0, .ref j6, .ref j7])), (j4, .inl (ca, 401, .inl fw)), (o0, .inl (cl, 1, .inr (.inl (vp_updL fo ((0 : Int32).toNatClampNeg) ((0 + xs (0 + 1 : Int32).toNatClampNeg : Int32).toInt64))))), (h0, .inr (6, [.ref b0, .ref b1, .ref s0, .ref b3, .int 0, .int (0 + xs (0 + 1 : Int32).toNatClampNeg), .int 0, .int 0]))] := hD
    refine W.widen (k := 45) (n := 95481) (by decide) (by decide) ?_
    have hw9 : r_5 = 0 := hw9
    subst hw9
    refine lv_istore (lv' := [(5, .int 0), (0, .ref b), (1, .ref h0), (2, .ref m0), (3, .ref o0), (4, .int 0)]) hx hb d_Lw_law_87 hl (by decide) rfl (fun ls hl => ?_)
    refine lv_aload_n hx hb d_Lw_law_89 rfl (lv_at hl 3 rfl) ?_
    refine lv_aload_n hx hb d_Lw_law_90 rfl (lv_at hl 1 rfl) ?_
    refine lv_iload hx hb d_Lw_law_91 (lv_at hl 5 rfl) ?_
    refine lv_iconst (v := 1) hx hb d_Lw_law_93 (by decide) ?_
    refine lv_iadd hx hb d_Lw_law_94 ?_
    refine va_sld hx hb hX hbl hbA hS (by unfold vp_in; decide) d_Lw_law_95 ?_
    have hPc := hP.sub (ws' := [(m0, .inr (7, [.ref j0, .ref j1, .ref j2, .ref j3, .ref j4, .int 0, .int 0, .int 0, .int 0, .int 0, .int 0, .ref j5, .int 0, .ref j6, .ref j7]))]) [4] rfl
    have hDc := hD.sub (ws' := [(m0, .inr (7, [.ref j0, .ref j1, .ref j2, .ref j3, .ref j4, .int 0, .int 0, .int 0, .int 0, .int 0, .int 0, .ref j5, .int 0, .ref j6, .ref j7]))]) [4] (by decide) rfl
    have hKc := hK.sub (tys' := []) [] rfl
    have hFc := va_free (wc := [(m0, .inr (7, [.ref j0, .ref j1, .ref j2, .ref j3, .ref j4, .int 0, .int 0, .int 0, .int 0, .int 0, .int 0, .ref j5, .int 0, .ref j6, .ref j7]))]) hD hS hA [4] rfl
    refine va_calli (va_runV (As := [.int (xs (0 + 1 : Int32).toNatClampNeg)]) (rest := []) ⟨hx, hb, hml, hown, hw⟩ (c_Md_variables l dC dI m0 j0 j1 j2 j3 j4 j5 j6 j7 H.size 0 0 0 0 0 0 0 (xs (0 + 1 : Int32).toNatClampNeg) (fun q => hc (Or.inl q)) (fun q => hc (Or.inr q)) (by rw [Int32.zero_add]; exact fun q => hc (Or.inr q))) (cb_V (C := R_Md) 1 hw k_657 k_37 k_654 k_655 k_656 rfl rfl (by decide +kernel) ⟨Nat.le_of_ble_eq_true rfl, Nat.le_of_ble_eq_true rfl⟩) ⟨fun a U g mk q => by obtain ⟨q0, q1, qP, qK, qD⟩ := q; exact ⟨q0, q1, qP, va_K.moved (u := U) (U := U.calling g mk a) (Vm.Alike.refl U.vm) qK, qD⟩, va_recv hKc hPc (ci := 7) (q0 := 0) rfl rfl, fun U hU hW => ⟨rfl, by rw [hU], by rw [hU]; exact hPc, va_K.moved hW.alike hKc, hDc.weaken (fun _ _ _ _ => trivial)⟩⟩ rfl rfl hl.1 rfl (lv_room (Nat.le_of_ble_eq_true rfl)) d_Lw_law_96 ⟨Nat.le_of_ble_eq_true rfl, Nat.le_of_ble_eq_true rfl⟩) hS (fun q _ h => hFc q h) hFc (fun r_6 u t H1 locs ht hvm hw9 hB hz1 hk1 hS => ?_)
    obtain ⟨hP1, hK1, hD1⟩ := hB
    rw [ht] at hP1
    have hK1 := va_K.moved hvm.symm hK1
    obtain ⟨hP, hD⟩ := va_join (wr := [(b1, .inr (2, [.ref g0, .ref g1, .ref g2, .int 0])), (s0, .inr (3, [.ref r0, .ref t0, .ref w0, .ref l0, .ref k0, .ref v0, .ref v1, .ref v2, .int 0, .int 0, .int 0, .int 0])), (t0, .inr (4, [.ref u0, .ref u1, .ref u2, .ref u3, .ref u4, .int 0, .int 0, .int 0, .int 1])), (w0, .inr (5, [.ref r0, .ref t0, .ref y0, .ref y1])), (j4, .inl (ca, 401, .inl fw)), (o0, .inl (cl, 1, .inr (.inl (vp_updL fo ((0 : Int32).toNatClampNeg) ((0 + xs (0 + 1 : Int32).toNatClampNeg : Int32).toInt64))))), (h0, .inr (6, [.ref b0, .ref b1, .ref s0, .ref b3, .int 0, .int (0 + xs (0 + 1 : Int32).toNatClampNeg), .int 0, .int 0]))]) (w1 := [(m0, .inr (7, [.ref j0, .ref j1, .ref j2, .ref j3, .ref j4, .int (0 + xs (0 + 1 : Int32).toNatClampNeg), .int 0, .int 0, .int 0, .int 0, .int 0, .ref j5, .int 0, .ref j6, .ref j7]))]) hP hD [4] [0, 1, 2, 3, 5, 6, 7] rfl rfl (by decide) (by decide) hk1 hFc hP1 hD1
    generalize H1 = H at hP hS ⊢
    have hP : va_P (dC, dI) vwCl [(b1, .inr (2, [.ref g0, .ref g1, .ref g2, .int 0])), (s0, .inr (3, [.ref r0, .ref t0, .ref w0, .ref l0, .ref k0, .ref v0, .ref v1, .ref v2, .int 0, .int 0, .int 0, .int 0])), (t0, .inr (4, [.ref u0, .ref u1, .ref u2, .ref u3, .ref u4, .int 0, .int 0, .int 0, .int 1])), (w0, .inr (5, [.ref r0, .ref t0, .ref y0, .ref y1])), (j4, .inl (ca, 401, .inl fw)), (o0, .inl (cl, 1, .inr (.inl (vp_updL fo ((0 : Int32).toNatClampNeg) ((0 + xs (0 + 1 : Int32).toNatClampNeg : Int32).toInt64))))), (h0, .inr (6, [.ref b0, .ref b1, .ref s0, .ref b3, .int 0, .int (0 + xs (0 + 1 : Int32).toNatClampNeg), .int 0, .int 0])), (m0, .inr (7, [.ref j0, .ref j1, .ref j2, .ref j3, .ref j4, .int (0 + xs (0 + 1 : Int32).toNatClampNeg), .int 0, .int 0, .int 0, .int 0, .int 0, .ref j5, .int 0, .ref j6, .ref j7]))] H := hP
    have hD : va_D (fun q : Nat => s.heap.size ≤ q) [(b1, .inr (2, [.ref g0, .ref g1, .ref g2, .int 0])), (s0, .inr (3, [.ref r0, .ref t0, .ref w0, .ref l0, .ref k0, .ref v0, .ref v1, .ref v2, .int 0, .int 0, .int 0, .int 0])), (t0, .inr (4, [.ref u0, .ref u1, .ref u2, .ref u3, .ref u4, .int 0, .int 0, .int 0, .int 1])), (w0, .inr (5, [.ref r0, .ref t0, .ref y0, .ref y1])), (j4, .inl (ca, 401, .inl fw)), (o0, .inl (cl, 1, .inr (.inl (vp_updL fo ((0 : Int32).toNatClampNeg) ((0 + xs (0 + 1 : Int32).toNatClampNeg : Int32).toInt64))))), (h0, .inr (6, [.ref b0, .ref b1, .ref s0, .ref b3, .int 0, .int (0 + xs (0 + 1 : Int32).toNatClampNeg), .int 0, .int 0])), (m0, .inr (7, [.ref j0, .ref j1, .ref j2, .ref j3, .ref j4, .int (0 + xs (0 + 1 : Int32).toNatClampNeg), .int 0, .int 0, .int 0, .int 0, .int 0, .ref j5, .int 0, .ref j6, .ref j7]))] := hD
    refine W.widen (k := 45) (n := 95481) (by decide) (by decide) ?_
    have hw9 : r_6 = 0 + xs (0 + 1 : Int32).toNatClampNeg := hw9
    subst hw9
    refine lv_istore (lv' := [(6, .int (0 + xs (0 + 1 : Int32).toNatClampNeg)), (5, .int 0), (0, .ref b), (1, .ref h0), (2, .ref m0), (3, .ref o0), (4, .int 0)]) hx hb d_Lw_law_99 hl (by decide) rfl (fun ls hl => ?_)
    refine lv_aload_n hx hb d_Lw_law_101 rfl (lv_at hl 4 rfl) ?_
    have hPc := hP.sub (ws' := [(m0, .inr (7, [.ref j0, .ref j1, .ref j2, .ref j3, .ref j4, .int (0 + xs (0 + 1 : Int32).toNatClampNeg), .int 0, .int 0, .int 0, .int 0, .int 0, .ref j5, .int 0, .ref j6, .ref j7]))]) [7] rfl
    have hDc := hD.sub (ws' := [(m0, .inr (7, [.ref j0, .ref j1, .ref j2, .ref j3, .ref j4, .int (0 + xs (0 + 1 : Int32).toNatClampNeg), .int 0, .int 0, .int 0, .int 0, .int 0, .ref j5, .int 0, .ref j6, .ref j7]))]) [7] (by decide) rfl
    have hKc := hK.sub (tys' := []) [] rfl
    have hFc := va_free (wc := [(m0, .inr (7, [.ref j0, .ref j1, .ref j2, .ref j3, .ref j4, .int (0 + xs (0 + 1 : Int32).toNatClampNeg), .int 0, .int 0, .int 0, .int 0, .int 0, .ref j5, .int 0, .ref j6, .ref j7]))]) hD hS hA [7] rfl
    refine va_calli (va_runV (As := []) (rest := []) ⟨hx, hb, hml, hown, hw⟩ (c_Md_thrown l dC dI m0 j0 j1 j2 j3 j4 j5 j6 j7 H.size (0 + xs (0 + 1 : Int32).toNatClampNeg) 0 0 0 0 0 0) (cb_V (C := R_Md) 0 hw k_653 k_37 k_650 k_651 k_652 rfl rfl (by decide +kernel) ⟨Nat.le_of_ble_eq_true rfl, Nat.le_of_ble_eq_true rfl⟩) ⟨fun a U g mk q => by obtain ⟨q0, q1, qP, qK, qD⟩ := q; exact ⟨q0, q1, qP, va_K.moved (u := U) (U := U.calling g mk a) (Vm.Alike.refl U.vm) qK, qD⟩, va_recv hKc hPc (ci := 7) (q0 := 0) rfl rfl, fun U hU hW => ⟨rfl, by rw [hU], by rw [hU]; exact hPc, va_K.moved hW.alike hKc, hDc.weaken (fun _ _ _ _ => trivial)⟩⟩ rfl rfl hl.1 rfl (lv_room (Nat.le_of_ble_eq_true rfl)) d_Lw_law_102 ⟨Nat.le_of_ble_eq_true rfl, Nat.le_of_ble_eq_true rfl⟩) hS (fun q _ h => hFc q h) hFc (fun r_7 u t H1 locs ht hvm hw9 hB hz1 hk1 hS => ?_)
    obtain ⟨hP1, hK1, hD1⟩ := hB
    rw [ht] at hP1
    have hK1 := va_K.moved hvm.symm hK1
    obtain ⟨hP, hD⟩ := va_join (wr := [(b1, .inr (2, [.ref g0, .ref g1, .ref g2, .int 0])), (s0, .inr (3, [.ref r0, .ref t0, .ref w0, .ref l0, .ref k0, .ref v0, .ref v1, .ref v2, .int 0, .int 0, .int 0, .int 0])), (t0, .inr (4, [.ref u0, .ref u1, .ref u2, .ref u3, .ref u4, .int 0, .int 0, .int 0, .int 1])), (w0, .inr (5, [.ref r0, .ref t0, .ref y0, .ref y1])), (j4, .inl (ca, 401, .inl fw)), (o0, .inl (cl, 1, .inr (.inl (vp_updL fo ((0 : Int32).toNatClampNeg) ((0 + xs (0 + 1 : Int32).toNatClampNeg : Int32).toInt64))))), (h0, .inr (6, [.ref b0, .ref b1, .ref s0, .ref b3, .int 0, .int (0 + xs (0 + 1 : Int32).toNatClampNeg), .int 0, .int 0]))]) (w1 := [(m0, .inr (7, [.ref j0, .ref j1, .ref j2, .ref j3, .ref j4, .int (0 + xs (0 + 1 : Int32).toNatClampNeg), .int 0, .int 0, .int 0, .int 0, .int 0, .ref j5, .int 0, .ref j6, .ref j7]))]) hP hD [7] [0, 1, 2, 3, 4, 5, 6] rfl rfl (by decide) (by decide) hk1 hFc hP1 hD1
    generalize H1 = H at hP hS ⊢
    have hP : va_P (dC, dI) vwCl [(b1, .inr (2, [.ref g0, .ref g1, .ref g2, .int 0])), (s0, .inr (3, [.ref r0, .ref t0, .ref w0, .ref l0, .ref k0, .ref v0, .ref v1, .ref v2, .int 0, .int 0, .int 0, .int 0])), (t0, .inr (4, [.ref u0, .ref u1, .ref u2, .ref u3, .ref u4, .int 0, .int 0, .int 0, .int 1])), (w0, .inr (5, [.ref r0, .ref t0, .ref y0, .ref y1])), (j4, .inl (ca, 401, .inl fw)), (o0, .inl (cl, 1, .inr (.inl (vp_updL fo ((0 : Int32).toNatClampNeg) ((0 + xs (0 + 1 : Int32).toNatClampNeg : Int32).toInt64))))), (h0, .inr (6, [.ref b0, .ref b1, .ref s0, .ref b3, .int 0, .int (0 + xs (0 + 1 : Int32).toNatClampNeg), .int 0, .int 0])), (m0, .inr (7, [.ref j0, .ref j1, .ref j2, .ref j3, .ref j4, .int (0 + xs (0 + 1 : Int32).toNatClampNeg), .int 0, .int 0, .int 0, .int 0, .int 0, .ref j5, .int 0, .ref j6, .ref j7]))] H := hP
    have hD : va_D (fun q : Nat => s.heap.size ≤ q) [(b1, .inr (2, [.ref g0, .ref g1, .ref g2, .int 0])), (s0, .inr (3, [.ref r0, .ref t0, .ref w0, .ref l0, .ref k0, .ref v0, .ref v1, .ref v2, .int 0, .int 0, .int 0, .int 0])), (t0, .inr (4, [.ref u0, .ref u1, .ref u2, .ref u3, .ref u4, .int 0, .int 0, .int 0, .int 1])), (w0, .inr (5, [.ref r0, .ref t0, .ref y0, .ref y1])), (j4, .inl (ca, 401, .inl fw)), (o0, .inl (cl, 1, .inr (.inl (vp_updL fo ((0 : Int32).toNatClampNeg) ((0 + xs (0 + 1 : Int32).toNatClampNeg : Int32).toInt64))))), (h0, .inr (6, [.ref b0, .ref b1, .ref s0, .ref b3, .int 0, .int (0 + xs (0 + 1 : Int32).toNatClampNeg), .int 0, .int 0])), (m0, .inr (7, [.ref j0, .ref j1, .ref j2, .ref j3, .ref j4, .int (0 + xs (0 + 1 : Int32).toNatClampNeg), .int 0, .int 0, .int 0, .int 0, .int 0, .ref j5, .int 0, .ref j6, .ref j7]))] := hD
    refine W.widen (k := 45) (n := 95481) (by decide) (by decide) ?_
    have hw9 : r_7 = 0 := hw9
    subst hw9
    refine lv_iload hx hb d_Lw_law_105 (lv_at hl 1 rfl) ?_
    refine lv_icmp_eq (tgt := 112) hx hb d_Lw_law_107 (by decide) (fun c_107 => ?_) (fun c_107 => absurd c_107 (by decide))
    refine lv_iload hx hb d_Lw_law_112 (lv_at hl 1 rfl) ?_
    refine lv_if_ne (tgt := 129) hx hb d_Lw_law_114 (by decide) (fun c_114 => absurd c_114 (by decide)) (fun c_114 => ?_)
    refine lv_aload_n hx hb d_Lw_law_117 rfl (lv_at hl 5 rfl) ?_
    refine lv_iconst (v := 0) hx hb d_Lw_law_118 (by decide) ?_
    refine va_lald hx hb hK hP 5 1 rfl rfl (by unfold vp_in; decide) d_Lw_law_119 ?_
    refine lv_iload hx hb d_Lw_law_120 (lv_at hl 0 rfl) ?_
    refine lv_i2l (v := (0 + xs (0 + 1 : Int32).toNatClampNeg : Int32).toInt64) hx hb d_Lw_law_122 rfl ?_
    refine W.lcmp hx hb d_Lw_law_123 ?_
    refine lv_if_eq (tgt := 129) hx hb d_Lw_law_124 (by decide) (fun c_124 => ?_) (fun c_124 => absurd c_124 (fun q => q (by rw [pk_uLs]; exact lg_self _)))
    refine lv_goto (tgt := 364) hx hb d_Lw_law_129 (by decide) ?_
    obtain ⟨v_8, ev_8⟩ : ∃ y : Int32, y = 0 + 2 := ⟨_, rfl⟩
    refine lv_iinc (v := v_8) (lv' := [(4, .int v_8), (6, .int (0 + xs (0 + 1 : Int32).toNatClampNeg)), (5, .int 0), (0, .ref b), (1, .ref h0), (2, .ref m0), (3, .ref o0)]) hx hb d_Lw_law_364 hl (k := 6) rfl (by rw [ev_8]; rfl) (by decide) rfl (fun ls hl => ?_)
    refine lv_goto (tgt := 23) hx hb d_Lw_law_367 (by decide) ?_
    exact lw_exit C1 (by decide) (by decide) _ _ ls v_8 (by rw [ev_8]; decide) hS (lv_sub hl [3, 0] rfl)
end
section
theorem k_280 : (Cond.methodLink "ClauseSearchLaw" 53 ⟨"ClauseSearch", "solve", "()Z"⟩) ∈ bg_W := bg_in 280 (by decide +kernel) (by decide +kernel)
theorem k_281 : (Cond.instanceMethod ⟨"ClauseSearch", "solve", "()Z"⟩) ∈ bg_W := bg_in 281 (by decide +kernel) (by decide +kernel)
theorem k_282 : (Cond.selects "ClauseSearch" ⟨"ClauseSearch", "solve", "()Z"⟩ ⟨"ClauseSearch", "solve", "()Z"⟩) ∈ bg_W := bg_in 282 (by decide +kernel) (by decide +kernel)
theorem k_283 : (Cond.code ⟨"ClauseSearch", "solve", "()Z"⟩ prog_1_method_5_code 1 (some .boolean)) ∈ bg_W := bg_in 283 (by decide +kernel) (by decide +kernel)
theorem k_537 : (Cond.methodLink "ClauseSearchLaw" 46 ⟨"ClauseSearchLaw", "give", "(LClauseSearch;I[J)I"⟩) ∈ bg_W := bg_in 537 (by decide +kernel) (by decide +kernel)
theorem k_538 : (Cond.static ⟨"ClauseSearchLaw", "give", "(LClauseSearch;I[J)I"⟩) ∈ bg_W := bg_in 538 (by decide +kernel) (by decide +kernel)
theorem k_539 : (Cond.codeWith ⟨"ClauseSearchLaw", "give", "(LClauseSearch;I[J)I"⟩ method_4_code 4 (some .int) [(0, 9, 12, 13), (0, 9, 15, 15)]) ∈ bg_W := bg_in 539 (by decide +kernel) (by decide +kernel)
theorem k_546 : (Cond.methodLink "ClauseSearchLaw" 49 ⟨"ClauseSearchLaw", "clause", "(LClauseSearch;[J)I"⟩) ∈ bg_W := bg_in 546 (by decide +kernel) (by decide +kernel)
theorem k_547 : (Cond.static ⟨"ClauseSearchLaw", "clause", "(LClauseSearch;[J)I"⟩) ∈ bg_W := bg_in 547 (by decide +kernel) (by decide +kernel)
theorem k_548 : (Cond.codeWith ⟨"ClauseSearchLaw", "clause", "(LClauseSearch;[J)I"⟩ method_5_code 3 (some .int) [(0, 8, 11, 24), (0, 8, 14, 15)]) ∈ bg_W := bg_in 548 (by decide +kernel) (by decide +kernel)
theorem k_580 : (Cond.methodLink "ClauseSearchLaw" 58 ⟨"ClauseSearchLaw", "value", "(LClauseSearch;I[J)I"⟩) ∈ bg_W := bg_in 580 (by decide +kernel) (by decide +kernel)
theorem k_581 : (Cond.static ⟨"ClauseSearchLaw", "value", "(LClauseSearch;I[J)I"⟩) ∈ bg_W := bg_in 581 (by decide +kernel) (by decide +kernel)
theorem k_582 : (Cond.codeWith ⟨"ClauseSearchLaw", "value", "(LClauseSearch;I[J)I"⟩ method_6_code 4 (some .int) [(0, 16, 19, 13), (0, 16, 22, 24)]) ∈ bg_W := bg_in 582 (by decide +kernel) (by decide +kernel)
theorem k_662 : (Cond.methodLink "ClauseSearchLaw" 48 ⟨"ClauseSearchModel", "give", "(I)I"⟩) ∈ bg_W := bg_in 662 (by decide +kernel) (by decide +kernel)
theorem k_663 : (Cond.instanceMethod ⟨"ClauseSearchModel", "give", "(I)I"⟩) ∈ bg_W := bg_in 663 (by decide +kernel) (by decide +kernel)
theorem k_664 : (Cond.selects "ClauseSearchModel" ⟨"ClauseSearchModel", "give", "(I)I"⟩ ⟨"ClauseSearchModel", "give", "(I)I"⟩) ∈ bg_W := bg_in 664 (by decide +kernel) (by decide +kernel)
theorem k_665 : (Cond.code ⟨"ClauseSearchModel", "give", "(I)I"⟩ prog_9_method_5_code 3 (some .int)) ∈ bg_W := bg_in 665 (by decide +kernel) (by decide +kernel)
theorem k_666 : (Cond.methodLink "ClauseSearchLaw" 52 ⟨"ClauseSearchModel", "clause", "()I"⟩) ∈ bg_W := bg_in 666 (by decide +kernel) (by decide +kernel)
theorem k_667 : (Cond.instanceMethod ⟨"ClauseSearchModel", "clause", "()I"⟩) ∈ bg_W := bg_in 667 (by decide +kernel) (by decide +kernel)
theorem k_668 : (Cond.selects "ClauseSearchModel" ⟨"ClauseSearchModel", "clause", "()I"⟩ ⟨"ClauseSearchModel", "clause", "()I"⟩) ∈ bg_W := bg_in 668 (by decide +kernel) (by decide +kernel)
theorem k_669 : (Cond.code ⟨"ClauseSearchModel", "clause", "()I"⟩ prog_9_method_6_code 2 (some .int)) ∈ bg_W := bg_in 669 (by decide +kernel) (by decide +kernel)
theorem k_670 : (Cond.methodLink "ClauseSearchLaw" 57 ⟨"ClauseSearchModel", "solve", "()Z"⟩) ∈ bg_W := bg_in 670 (by decide +kernel) (by decide +kernel)
theorem k_671 : (Cond.instanceMethod ⟨"ClauseSearchModel", "solve", "()Z"⟩) ∈ bg_W := bg_in 671 (by decide +kernel) (by decide +kernel)
theorem k_672 : (Cond.selects "ClauseSearchModel" ⟨"ClauseSearchModel", "solve", "()Z"⟩ ⟨"ClauseSearchModel", "solve", "()Z"⟩) ∈ bg_W := bg_in 672 (by decide +kernel) (by decide +kernel)
theorem k_673 : (Cond.code ⟨"ClauseSearchModel", "solve", "()Z"⟩ prog_9_method_13_code 2 (some .boolean)) ∈ bg_W := bg_in 673 (by decide +kernel) (by decide +kernel)
theorem k_698 : (Cond.methodLink "ClauseSearchLaw" 60 ⟨"ClauseSearchModel", "value", "(I)Z"⟩) ∈ bg_W := bg_in 698 (by decide +kernel) (by decide +kernel)
theorem k_699 : (Cond.instanceMethod ⟨"ClauseSearchModel", "value", "(I)Z"⟩) ∈ bg_W := bg_in 699 (by decide +kernel) (by decide +kernel)
theorem k_700 : (Cond.selects "ClauseSearchModel" ⟨"ClauseSearchModel", "value", "(I)Z"⟩ ⟨"ClauseSearchModel", "value", "(I)Z"⟩) ∈ bg_W := bg_in 700 (by decide +kernel) (by decide +kernel)
theorem k_701 : (Cond.code ⟨"ClauseSearchModel", "value", "(I)Z"⟩ prog_9_method_14_code 2 (some .boolean)) ∈ bg_W := bg_in 701 (by decide +kernel) (by decide +kernel)
theorem d_Lw_law_132 : decode code 132 = .ok (.aload_n 1, 1) := by decide +kernel
theorem d_Lw_law_133 : decode code 133 = .ok (.aload_n 0, 1) := by decide +kernel
theorem d_Lw_law_134 : decode code 134 = .ok (.iload 4, 2) := by decide +kernel
theorem d_Lw_law_136 : decode code 136 = .ok (.iconst 1, 1) := by decide +kernel
theorem d_Lw_law_137 : decode code 137 = .ok (.iadd, 1) := by decide +kernel
theorem d_Lw_law_138 : decode code 138 = .ok (.iaload, 1) := by decide +kernel
theorem d_Lw_law_139 : decode code 139 = .ok (.aload_n 3, 1) := by decide +kernel
theorem d_Lw_law_140 : decode code 140 = .ok (.invokestatic 46, 3) := by decide +kernel
theorem d_Lw_law_143 : decode code 143 = .ok (.istore 5, 2) := by decide +kernel
theorem d_Lw_law_145 : decode code 145 = .ok (.aload_n 2, 1) := by decide +kernel
theorem d_Lw_law_146 : decode code 146 = .ok (.aload_n 0, 1) := by decide +kernel
theorem d_Lw_law_147 : decode code 147 = .ok (.iload 4, 2) := by decide +kernel
theorem d_Lw_law_149 : decode code 149 = .ok (.iconst 1, 1) := by decide +kernel
theorem d_Lw_law_150 : decode code 150 = .ok (.iadd, 1) := by decide +kernel
theorem d_Lw_law_151 : decode code 151 = .ok (.iaload, 1) := by decide +kernel
theorem d_Lw_law_152 : decode code 152 = .ok (.invokevirtual 48, 3) := by decide +kernel
theorem d_Lw_law_155 : decode code 155 = .ok (.istore 6, 2) := by decide +kernel
theorem d_Lw_law_157 : decode code 157 = .ok (.aload_n 2, 1) := by decide +kernel
theorem d_Lw_law_158 : decode code 158 = .ok (.invokevirtual 43, 3) := by decide +kernel
theorem d_Lw_law_161 : decode code 161 = .ok (.iload 5, 2) := by decide +kernel
theorem d_Lw_law_163 : decode code 163 = .ok (.if_icmp .eq 5, 3) := by decide +kernel
theorem d_Lw_law_168 : decode code 168 = .ok (.iload 5, 2) := by decide +kernel
theorem d_Lw_law_170 : decode code 170 = .ok (.ifCond .ne 15, 3) := by decide +kernel
theorem d_Lw_law_185 : decode code 185 = .ok (.goto 179, 3) := by decide +kernel
theorem d_Lw_law_188 : decode code 188 = .ok (.aload_n 1, 1) := by decide +kernel
theorem d_Lw_law_189 : decode code 189 = .ok (.aload_n 3, 1) := by decide +kernel
theorem d_Lw_law_190 : decode code 190 = .ok (.invokestatic 49, 3) := by decide +kernel
theorem d_Lw_law_193 : decode code 193 = .ok (.istore 5, 2) := by decide +kernel
theorem d_Lw_law_195 : decode code 195 = .ok (.aload_n 2, 1) := by decide +kernel
theorem d_Lw_law_196 : decode code 196 = .ok (.invokevirtual 52, 3) := by decide +kernel
theorem d_Lw_law_199 : decode code 199 = .ok (.istore 6, 2) := by decide +kernel
theorem d_Lw_law_201 : decode code 201 = .ok (.aload_n 2, 1) := by decide +kernel
theorem d_Lw_law_202 : decode code 202 = .ok (.invokevirtual 43, 3) := by decide +kernel
theorem d_Lw_law_205 : decode code 205 = .ok (.iload 5, 2) := by decide +kernel
theorem d_Lw_law_207 : decode code 207 = .ok (.if_icmp .eq 5, 3) := by decide +kernel
theorem d_Lw_law_212 : decode code 212 = .ok (.iload 5, 2) := by decide +kernel
theorem d_Lw_law_214 : decode code 214 = .ok (.ifCond .ne 15, 3) := by decide +kernel
theorem d_Lw_law_229 : decode code 229 = .ok (.goto 135, 3) := by decide +kernel
theorem d_Lw_law_232 : decode code 232 = .ok (.aload_n 1, 1) := by decide +kernel
theorem d_Lw_law_233 : decode code 233 = .ok (.invokevirtual 53, 3) := by decide +kernel
theorem d_Lw_law_236 : decode code 236 = .ok (.aload_n 2, 1) := by decide +kernel
theorem d_Lw_law_237 : decode code 237 = .ok (.invokevirtual 57, 3) := by decide +kernel
theorem d_Lw_law_240 : decode code 240 = .ok (.if_icmp .eq 124, 3) := by decide +kernel
theorem d_Lw_law_245 : decode code 245 = .ok (.aload_n 1, 1) := by decide +kernel
theorem d_Lw_law_246 : decode code 246 = .ok (.aload_n 0, 1) := by decide +kernel
theorem d_Lw_law_247 : decode code 247 = .ok (.iload 4, 2) := by decide +kernel
theorem d_Lw_law_249 : decode code 249 = .ok (.iconst 1, 1) := by decide +kernel
theorem d_Lw_law_250 : decode code 250 = .ok (.iadd, 1) := by decide +kernel
theorem d_Lw_law_251 : decode code 251 = .ok (.iaload, 1) := by decide +kernel
theorem d_Lw_law_252 : decode code 252 = .ok (.aload_n 3, 1) := by decide +kernel
theorem d_Lw_law_253 : decode code 253 = .ok (.invokestatic 58, 3) := by decide +kernel
theorem d_Lw_law_256 : decode code 256 = .ok (.istore 5, 2) := by decide +kernel
theorem d_Lw_law_258 : decode code 258 = .ok (.aload_n 2, 1) := by decide +kernel
theorem d_Lw_law_259 : decode code 259 = .ok (.aload_n 0, 1) := by decide +kernel
theorem d_Lw_law_260 : decode code 260 = .ok (.iload 4, 2) := by decide +kernel
theorem d_Lw_law_262 : decode code 262 = .ok (.iconst 1, 1) := by decide +kernel
theorem d_Lw_law_263 : decode code 263 = .ok (.iadd, 1) := by decide +kernel
theorem d_Lw_law_264 : decode code 264 = .ok (.iaload, 1) := by decide +kernel
theorem d_Lw_law_265 : decode code 265 = .ok (.invokevirtual 60, 3) := by decide +kernel
theorem d_Lw_law_268 : decode code 268 = .ok (.istore 6, 2) := by decide +kernel
theorem d_Lw_law_270 : decode code 270 = .ok (.aload_n 2, 1) := by decide +kernel
theorem d_Lw_law_271 : decode code 271 = .ok (.invokevirtual 43, 3) := by decide +kernel
theorem d_Lw_law_274 : decode code 274 = .ok (.iload 5, 2) := by decide +kernel
theorem d_Lw_law_276 : decode code 276 = .ok (.if_icmp .eq 5, 3) := by decide +kernel
theorem d_Lw_law_281 : decode code 281 = .ok (.iload 5, 2) := by decide +kernel
theorem d_Lw_law_283 : decode code 283 = .ok (.ifCond .ne 22, 3) := by decide +kernel
theorem d_Lw_law_305 : decode code 305 = .ok (.goto 59, 3) := by decide +kernel
set_option maxHeartbeats 4000000 in
set_option maxRecDepth 100000 in
/-- case 1 -/
theorem lw_c1 {p : Program} {l : Launch} {e : Env} {s : State} {m : MethodId} {below : List Frame} {meth : Method} {c : Code} {dC : Nat → ClassId} {dI : Nat → Nat → Nat} {b : Nat} {xs : Nat → Int32} (hfl : l.flags = pinnedFlags ++ [noTraceFlag]) (C1 : lw_At p s m meth c b 2 xs) (hZ0 : tw_Z s s.heap s.heap.size) (h0 b0 b1 s0 b3 g0 g1 g2 r0 t0 w0 l0 k0 v0 v1 v2 u0 u1 u2 u3 u4 y0 y1 m0 j0 j1 j2 j3 j4 j5 j6 j7 o0 : Nat) (ca cl : ClassId) (fw : Nat → Int32) (fo : Nat → Int64) (H : Heap) (locs : List Loc) (ls : Array Slot) (hK : va_K (dC, dI) vwCl [(ca, .int), (cl, .long)] s) (hP : va_P (dC, dI) vwCl [(h0, .inr (6, [.ref b0, .ref b1, .ref s0, .ref b3, .int 0, .int 0, .int 0, .int 0])), (b1, .inr (2, [.ref g0, .ref g1, .ref g2, .int 0])), (s0, .inr (3, [.ref r0, .ref t0, .ref w0, .ref l0, .ref k0, .ref v0, .ref v1, .ref v2, .int 0, .int 0, .int 0, .int 0])), (t0, .inr (4, [.ref u0, .ref u1, .ref u2, .ref u3, .ref u4, .int 0, .int 0, .int 0, .int 1])), (w0, .inr (5, [.ref r0, .ref t0, .ref y0, .ref y1])), (m0, .inr (7, [.ref j0, .ref j1, .ref j2, .ref j3, .ref j4, .int 0, .int 0, .int 0, .int 0, .int 0, .int 0, .ref j5, .int 0, .ref j6, .ref j7])), (j4, .inl (ca, 401, .inl fw)), (o0, .inl (cl, 1, .inr (.inl fo)))] H) (hD : va_D (fun q : Nat => s.heap.size ≤ q) [(h0, .inr (6, [.ref b0, .ref b1, .ref s0, .ref b3, .int 0, .int 0, .int 0, .int 0])), (b1, .inr (2, [.ref g0, .ref g1, .ref g2, .int 0])), (s0, .inr (3, [.ref r0, .ref t0, .ref w0, .ref l0, .ref k0, .ref v0, .ref v1, .ref v2, .int 0, .int 0, .int 0, .int 0])), (t0, .inr (4, [.ref u0, .ref u1, .ref u2, .ref u3, .ref u4, .int 0, .int 0, .int 0, .int 1])), (w0, .inr (5, [.ref r0, .ref t0, .ref y0, .ref y1])), (m0, .inr (7, [.ref j0, .ref j1, .ref j2, .ref j3, .ref j4, .int 0, .int 0, .int 0, .int 0, .int 0, .int 0, .ref j5, .int 0, .ref j6, .ref j7])), (j4, .inl (ca, 401, .inl fw)), (o0, .inl (cl, 1, .inr (.inl fo)))]) (hS : va_S (fun q : Nat => s.heap.size ≤ q) s.heap H locs) (hl : lv_has ls 7 [(0, .ref b), (1, .ref h0), (2, .ref m0), (3, .ref o0), (4, .int 0)]) : W p l e room_1 s m #[Value.ref b] below meth c H locs 45 95481 (lw_Z below #[Value.ref b] s) (F0 m 132 ls []) := by
  obtain ⟨hx, hb, hr, hml, hown, hts, hX, hbl, hlocks, hgv⟩ := id C1
  have hw : ∀ w ∈ bg_W, w.before #[Value.ref b] s = true := fun w h => hts w (bg_sub w h)
  have hown : s.vm.findClass R_Lw = some m.cls := hown
  have hA : ∀ q : Nat, s.heap.size ≤ q → (fun q : Nat => s.heap.size ≤ q) q := fun _ h => h
  have hbA : ¬ (fun q : Nat => s.heap.size ≤ q) b := Nat.not_le.mpr hbl
  refine lv_aload_n hx hb d_Lw_law_132 rfl (lv_at hl 1 rfl) ?_
  refine lv_aload_n hx hb d_Lw_law_133 rfl (lv_at hl 0 rfl) ?_
  refine lv_iload hx hb d_Lw_law_134 (lv_at hl 4 rfl) ?_
  refine lv_iconst (v := 1) hx hb d_Lw_law_136 (by decide) ?_
  refine lv_iadd hx hb d_Lw_law_137 ?_
  refine va_sld hx hb hX hbl hbA hS (by unfold vp_in; decide) d_Lw_law_138 ?_
  refine lv_aload_n hx hb d_Lw_law_139 rfl (lv_at hl 3 rfl) ?_
  have hZ : tw_Z s H s.heap.size := hZ0.kept (fun a ha => hS.2.1 a ha (Nat.not_le.mpr ha))
  have hPc := hP.sub (ws' := [(h0, .inr (6, [.ref b0, .ref b1, .ref s0, .ref b3, .int 0, .int 0, .int 0, .int 0])), (o0, .inl (cl, 1, .inr (.inl fo)))]) [0, 7] rfl
  have hDc := hD.sub (ws' := [(h0, .inr (6, [.ref b0, .ref b1, .ref s0, .ref b3, .int 0, .int 0, .int 0, .int 0])), (o0, .inl (cl, 1, .inr (.inl fo)))]) [0, 7] (by decide) rfl
  have hKc := hK.sub (tys' := [(cl, .long)]) [1] rfl
  have hFc := va_free (wc := [(h0, .inr (6, [.ref b0, .ref b1, .ref s0, .ref b3, .int 0, .int 0, .int 0, .int 0])), (o0, .inl (cl, 1, .inr (.inl fo)))]) hD hS hA [0, 7] rfl
  refine va_calli (th_runS (n := 3) (As := [.ref h0, .int (xs (0 + 1 : Int32).toNatClampNeg), .ref o0]) (rest := []) ⟨hx, hb, hml, hown, hw⟩ (c_Lw_give_1 l hfl dC dI h0 b0 b1 s0 b3 o0 cl H.size s.heap.size 0 0 0 0 (xs (0 + 1 : Int32).toNatClampNeg) fo (tri_z _)) k_539 k_28 k_537 k_538 rfl rfl (by decide +kernel) ⟨Nat.le_of_ble_eq_true rfl, Nat.le_of_ble_eq_true rfl⟩ ⟨fun a U g mk q => by obtain ⟨q0, q1, qP, qK, qD, qZ⟩ := q; exact ⟨q0, q1, qP, va_K.moved (u := U) (U := U.calling g mk a) (Vm.Alike.refl U.vm) qK, qD, tw_Z.moved (u := U) (U := U.calling g mk a) (Vm.Alike.refl U.vm) qZ⟩, fun U hU hW => ⟨rfl, by rw [hU], by rw [hU]; exact hPc, va_K.moved hW.alike hKc, hDc.weaken (fun _ _ _ _ => trivial), by rw [hU]; exact hZ.moved hW.alike⟩⟩ rfl rfl hl.1 rfl (lv_room (Nat.le_of_ble_eq_true rfl)) d_Lw_law_140 ⟨Nat.le_of_ble_eq_true rfl, Nat.le_of_ble_eq_true rfl⟩) hS (fun q _ h => hFc q h) hFc (fun r_1 u t H1 locs ht hvm hw9 hB hz1 hk1 hS => ?_)
  obtain ⟨hP1, hK1, hD1⟩ := hB
  rw [ht] at hP1
  have hK1 := va_K.moved hvm.symm hK1
  obtain ⟨hP, hD⟩ := va_join (wr := [(b1, .inr (2, [.ref g0, .ref g1, .ref g2, .int 0])), (s0, .inr (3, [.ref r0, .ref t0, .ref w0, .ref l0, .ref k0, .ref v0, .ref v1, .ref v2, .int 0, .int 0, .int 0, .int 0])), (t0, .inr (4, [.ref u0, .ref u1, .ref u2, .ref u3, .ref u4, .int 0, .int 0, .int 0, .int 1])), (w0, .inr (5, [.ref r0, .ref t0, .ref y0, .ref y1])), (m0, .inr (7, [.ref j0, .ref j1, .ref j2, .ref j3, .ref j4, .int 0, .int 0, .int 0, .int 0, .int 0, .int 0, .ref j5, .int 0, .ref j6, .ref j7])), (j4, .inl (ca, 401, .inl fw))]) (w1 := [(h0, .inr (6, [.ref b0, .ref b1, .ref s0, .ref b3, .int 0, .int 0, .int 0, .int 0])), (o0, .inl (cl, 1, .inr (.inl fo)))]) hP hD [0, 7] [1, 2, 3, 4, 5, 6] rfl rfl (by decide) (by decide) hk1 hFc hP1 hD1
  generalize H1 = H at hP hS ⊢
  have hP : va_P (dC, dI) vwCl [(b1, .inr (2, [.ref g0, .ref g1, .ref g2, .int 0])), (s0, .inr (3, [.ref r0, .ref t0, .ref w0, .ref l0, .ref k0, .ref v0, .ref v1, .ref v2, .int 0, .int 0, .int 0, .int 0])), (t0, .inr (4, [.ref u0, .ref u1, .ref u2, .ref u3, .ref u4, .int 0, .int 0, .int 0, .int 1])), (w0, .inr (5, [.ref r0, .ref t0, .ref y0, .ref y1])), (m0, .inr (7, [.ref j0, .ref j1, .ref j2, .ref j3, .ref j4, .int 0, .int 0, .int 0, .int 0, .int 0, .int 0, .ref j5, .int 0, .ref j6, .ref j7])), (j4, .inl (ca, 401, .inl fw)), (h0, .inr (6, [.ref b0, .ref b1, .ref s0, .ref b3, .int 0, .int 0, .int 0, .int 0])), (o0, .inl (cl, 1, .inr (.inl fo)))] H := hP
  have hD : va_D (fun q : Nat => s.heap.size ≤ q) [(b1, .inr (2, [.ref g0, .ref g1, .ref g2, .int 0])), (s0, .inr (3, [.ref r0, .ref t0, .ref w0, .ref l0, .ref k0, .ref v0, .ref v1, .ref v2, .int 0, .int 0, .int 0, .int 0])), (t0, .inr (4, [.ref u0, .ref u1, .ref u2, .ref u3, .ref u4, .int 0, .int 0, .int 0, .int 1])), (w0, .inr (5, [.ref r0, .ref t0, .ref y0, .ref y1])), (m0, .inr (7, [.ref j0, .ref j1, .ref j2, .ref j3, .ref j4, .int 0, .int 0, .int 0, .int 0, .int 0, .int 0, .ref j5, .int 0, .ref j6, .ref j7])), (j4, .inl (ca, 401, .inl fw)), (h0, .inr (6, [.ref b0, .ref b1, .ref s0, .ref b3, .int 0, .int 0, .int 0, .int 0])), (o0, .inl (cl, 1, .inr (.inl fo)))] := hD
  refine W.widen (k := 46) (n := 95487) (by decide) (by decide) ?_
  have hw9 : r_1 = 1 := hw9
  subst hw9
  refine lv_istore (lv' := [(5, .int 1), (0, .ref b), (1, .ref h0), (2, .ref m0), (3, .ref o0), (4, .int 0)]) hx hb d_Lw_law_143 hl (by decide) rfl (fun ls hl => ?_)
  refine lv_aload_n hx hb d_Lw_law_145 rfl (lv_at hl 3 rfl) ?_
  refine lv_aload_n hx hb d_Lw_law_146 rfl (lv_at hl 1 rfl) ?_
  refine lv_iload hx hb d_Lw_law_147 (lv_at hl 5 rfl) ?_
  refine lv_iconst (v := 1) hx hb d_Lw_law_149 (by decide) ?_
  refine lv_iadd hx hb d_Lw_law_150 ?_
  refine va_sld hx hb hX hbl hbA hS (by unfold vp_in; decide) d_Lw_law_151 ?_
  have hPc := hP.sub (ws' := [(m0, .inr (7, [.ref j0, .ref j1, .ref j2, .ref j3, .ref j4, .int 0, .int 0, .int 0, .int 0, .int 0, .int 0, .ref j5, .int 0, .ref j6, .ref j7]))]) [4] rfl
  have hDc := hD.sub (ws' := [(m0, .inr (7, [.ref j0, .ref j1, .ref j2, .ref j3, .ref j4, .int 0, .int 0, .int 0, .int 0, .int 0, .int 0, .ref j5, .int 0, .ref j6, .ref j7]))]) [4] (by decide) rfl
  have hKc := hK.sub (tys' := []) [] rfl
  have hFc := va_free (wc := [(m0, .inr (7, [.ref j0, .ref j1, .ref j2, .ref j3, .ref j4, .int 0, .int 0, .int 0, .int 0, .int 0, .int 0, .ref j5, .int 0, .ref j6, .ref j7]))]) hD hS hA [4] rfl
  refine va_calli (va_runV (As := [.int (xs (0 + 1 : Int32).toNatClampNeg)]) (rest := []) ⟨hx, hb, hml, hown, hw⟩ (c_Md_give_1 l dC dI m0 j0 j1 j2 j3 j4 j5 j6 j7 H.size 0 0 0 0 0 0 0 (xs (0 + 1 : Int32).toNatClampNeg) (by rcases tri_z (xs ((0 + 1) : Int32).toNatClampNeg) with h | h | h; exact Or.inl h; exact Or.inr (Or.inr h); exact Or.inr (Or.inl h))) (cb_V (C := R_Md) 1 hw k_665 k_37 k_662 k_663 k_664 rfl rfl (by decide +kernel) ⟨Nat.le_of_ble_eq_true rfl, Nat.le_of_ble_eq_true rfl⟩) ⟨fun a U g mk q => by obtain ⟨q0, q1, qP, qK, qD⟩ := q; exact ⟨q0, q1, qP, va_K.moved (u := U) (U := U.calling g mk a) (Vm.Alike.refl U.vm) qK, qD⟩, va_recv hKc hPc (ci := 7) (q0 := 0) rfl rfl, fun U hU hW => ⟨rfl, by rw [hU], by rw [hU]; exact hPc, va_K.moved hW.alike hKc, hDc.weaken (fun _ _ _ _ => trivial)⟩⟩ rfl rfl hl.1 rfl (lv_room (Nat.le_of_ble_eq_true rfl)) d_Lw_law_152 ⟨Nat.le_of_ble_eq_true rfl, Nat.le_of_ble_eq_true rfl⟩) hS (fun q _ h => hFc q h) hFc (fun r_2 u t H1 locs ht hvm hw9 hB hz1 hk1 hS => ?_)
  obtain ⟨hP1, hK1, hD1⟩ := hB
  rw [ht] at hP1
  have hK1 := va_K.moved hvm.symm hK1
  obtain ⟨hP, hD⟩ := va_join (wr := [(b1, .inr (2, [.ref g0, .ref g1, .ref g2, .int 0])), (s0, .inr (3, [.ref r0, .ref t0, .ref w0, .ref l0, .ref k0, .ref v0, .ref v1, .ref v2, .int 0, .int 0, .int 0, .int 0])), (t0, .inr (4, [.ref u0, .ref u1, .ref u2, .ref u3, .ref u4, .int 0, .int 0, .int 0, .int 1])), (w0, .inr (5, [.ref r0, .ref t0, .ref y0, .ref y1])), (j4, .inl (ca, 401, .inl fw)), (h0, .inr (6, [.ref b0, .ref b1, .ref s0, .ref b3, .int 0, .int 0, .int 0, .int 0])), (o0, .inl (cl, 1, .inr (.inl fo)))]) (w1 := [(m0, .inr (7, [.ref j0, .ref j1, .ref j2, .ref j3, .ref j4, .int 0, .int 0, .int 0, .int 0, .int 0, .int 1, .ref j5, .int 0, .ref j6, .ref j7]))]) hP hD [4] [0, 1, 2, 3, 5, 6, 7] rfl rfl (by decide) (by decide) hk1 hFc hP1 hD1
  generalize H1 = H at hP hS ⊢
  have hP : va_P (dC, dI) vwCl [(b1, .inr (2, [.ref g0, .ref g1, .ref g2, .int 0])), (s0, .inr (3, [.ref r0, .ref t0, .ref w0, .ref l0, .ref k0, .ref v0, .ref v1, .ref v2, .int 0, .int 0, .int 0, .int 0])), (t0, .inr (4, [.ref u0, .ref u1, .ref u2, .ref u3, .ref u4, .int 0, .int 0, .int 0, .int 1])), (w0, .inr (5, [.ref r0, .ref t0, .ref y0, .ref y1])), (j4, .inl (ca, 401, .inl fw)), (h0, .inr (6, [.ref b0, .ref b1, .ref s0, .ref b3, .int 0, .int 0, .int 0, .int 0])), (o0, .inl (cl, 1, .inr (.inl fo))), (m0, .inr (7, [.ref j0, .ref j1, .ref j2, .ref j3, .ref j4, .int 0, .int 0, .int 0, .int 0, .int 0, .int 1, .ref j5, .int 0, .ref j6, .ref j7]))] H := hP
  have hD : va_D (fun q : Nat => s.heap.size ≤ q) [(b1, .inr (2, [.ref g0, .ref g1, .ref g2, .int 0])), (s0, .inr (3, [.ref r0, .ref t0, .ref w0, .ref l0, .ref k0, .ref v0, .ref v1, .ref v2, .int 0, .int 0, .int 0, .int 0])), (t0, .inr (4, [.ref u0, .ref u1, .ref u2, .ref u3, .ref u4, .int 0, .int 0, .int 0, .int 1])), (w0, .inr (5, [.ref r0, .ref t0, .ref y0, .ref y1])), (j4, .inl (ca, 401, .inl fw)), (h0, .inr (6, [.ref b0, .ref b1, .ref s0, .ref b3, .int 0, .int 0, .int 0, .int 0])), (o0, .inl (cl, 1, .inr (.inl fo))), (m0, .inr (7, [.ref j0, .ref j1, .ref j2, .ref j3, .ref j4, .int 0, .int 0, .int 0, .int 0, .int 0, .int 1, .ref j5, .int 0, .ref j6, .ref j7]))] := hD
  refine W.widen (k := 46) (n := 95487) (by decide) (by decide) ?_
  have hw9 : r_2 = 0 := hw9
  subst hw9
  refine lv_istore (lv' := [(6, .int 0), (5, .int 1), (0, .ref b), (1, .ref h0), (2, .ref m0), (3, .ref o0), (4, .int 0)]) hx hb d_Lw_law_155 hl (by decide) rfl (fun ls hl => ?_)
  refine lv_aload_n hx hb d_Lw_law_157 rfl (lv_at hl 4 rfl) ?_
  have hPc := hP.sub (ws' := [(m0, .inr (7, [.ref j0, .ref j1, .ref j2, .ref j3, .ref j4, .int 0, .int 0, .int 0, .int 0, .int 0, .int 1, .ref j5, .int 0, .ref j6, .ref j7]))]) [7] rfl
  have hDc := hD.sub (ws' := [(m0, .inr (7, [.ref j0, .ref j1, .ref j2, .ref j3, .ref j4, .int 0, .int 0, .int 0, .int 0, .int 0, .int 1, .ref j5, .int 0, .ref j6, .ref j7]))]) [7] (by decide) rfl
  have hKc := hK.sub (tys' := []) [] rfl
  have hFc := va_free (wc := [(m0, .inr (7, [.ref j0, .ref j1, .ref j2, .ref j3, .ref j4, .int 0, .int 0, .int 0, .int 0, .int 0, .int 1, .ref j5, .int 0, .ref j6, .ref j7]))]) hD hS hA [7] rfl
  refine va_calli (va_runV (As := []) (rest := []) ⟨hx, hb, hml, hown, hw⟩ (c_Md_thrown l dC dI m0 j0 j1 j2 j3 j4 j5 j6 j7 H.size 0 0 0 0 0 1 0) (cb_V (C := R_Md) 0 hw k_653 k_37 k_650 k_651 k_652 rfl rfl (by decide +kernel) ⟨Nat.le_of_ble_eq_true rfl, Nat.le_of_ble_eq_true rfl⟩) ⟨fun a U g mk q => by obtain ⟨q0, q1, qP, qK, qD⟩ := q; exact ⟨q0, q1, qP, va_K.moved (u := U) (U := U.calling g mk a) (Vm.Alike.refl U.vm) qK, qD⟩, va_recv hKc hPc (ci := 7) (q0 := 0) rfl rfl, fun U hU hW => ⟨rfl, by rw [hU], by rw [hU]; exact hPc, va_K.moved hW.alike hKc, hDc.weaken (fun _ _ _ _ => trivial)⟩⟩ rfl rfl hl.1 rfl (lv_room (Nat.le_of_ble_eq_true rfl)) d_Lw_law_158 ⟨Nat.le_of_ble_eq_true rfl, Nat.le_of_ble_eq_true rfl⟩) hS (fun q _ h => hFc q h) hFc (fun r_3 u t H1 locs ht hvm hw9 hB hz1 hk1 hS => ?_)
  obtain ⟨hP1, hK1, hD1⟩ := hB
  rw [ht] at hP1
  have hK1 := va_K.moved hvm.symm hK1
  obtain ⟨hP, hD⟩ := va_join (wr := [(b1, .inr (2, [.ref g0, .ref g1, .ref g2, .int 0])), (s0, .inr (3, [.ref r0, .ref t0, .ref w0, .ref l0, .ref k0, .ref v0, .ref v1, .ref v2, .int 0, .int 0, .int 0, .int 0])), (t0, .inr (4, [.ref u0, .ref u1, .ref u2, .ref u3, .ref u4, .int 0, .int 0, .int 0, .int 1])), (w0, .inr (5, [.ref r0, .ref t0, .ref y0, .ref y1])), (j4, .inl (ca, 401, .inl fw)), (h0, .inr (6, [.ref b0, .ref b1, .ref s0, .ref b3, .int 0, .int 0, .int 0, .int 0])), (o0, .inl (cl, 1, .inr (.inl fo)))]) (w1 := [(m0, .inr (7, [.ref j0, .ref j1, .ref j2, .ref j3, .ref j4, .int 0, .int 0, .int 0, .int 0, .int 0, .int 1, .ref j5, .int 0, .ref j6, .ref j7]))]) hP hD [7] [0, 1, 2, 3, 4, 5, 6] rfl rfl (by decide) (by decide) hk1 hFc hP1 hD1
  generalize H1 = H at hP hS ⊢
  have hP : va_P (dC, dI) vwCl [(b1, .inr (2, [.ref g0, .ref g1, .ref g2, .int 0])), (s0, .inr (3, [.ref r0, .ref t0, .ref w0, .ref l0, .ref k0, .ref v0, .ref v1, .ref v2, .int 0, .int 0, .int 0, .int 0])), (t0, .inr (4, [.ref u0, .ref u1, .ref u2, .ref u3, .ref u4, .int 0, .int 0, .int 0, .int 1])), (w0, .inr (5, [.ref r0, .ref t0, .ref y0, .ref y1])), (j4, .inl (ca, 401, .inl fw)), (h0, .inr (6, [.ref b0, .ref b1, .ref s0, .ref b3, .int 0, .int 0, .int 0, .int 0])), (o0, .inl (cl, 1, .inr (.inl fo))), (m0, .inr (7, [.ref j0, .ref j1, .ref j2, .ref j3, .ref j4, .int 0, .int 0, .int 0, .int 0, .int 0, .int 1, .ref j5, .int 0, .ref j6, .ref j7]))] H := hP
  have hD : va_D (fun q : Nat => s.heap.size ≤ q) [(b1, .inr (2, [.ref g0, .ref g1, .ref g2, .int 0])), (s0, .inr (3, [.ref r0, .ref t0, .ref w0, .ref l0, .ref k0, .ref v0, .ref v1, .ref v2, .int 0, .int 0, .int 0, .int 0])), (t0, .inr (4, [.ref u0, .ref u1, .ref u2, .ref u3, .ref u4, .int 0, .int 0, .int 0, .int 1])), (w0, .inr (5, [.ref r0, .ref t0, .ref y0, .ref y1])), (j4, .inl (ca, 401, .inl fw)), (h0, .inr (6, [.ref b0, .ref b1, .ref s0, .ref b3, .int 0, .int 0, .int 0, .int 0])), (o0, .inl (cl, 1, .inr (.inl fo))), (m0, .inr (7, [.ref j0, .ref j1, .ref j2, .ref j3, .ref j4, .int 0, .int 0, .int 0, .int 0, .int 0, .int 1, .ref j5, .int 0, .ref j6, .ref j7]))] := hD
  refine W.widen (k := 46) (n := 95487) (by decide) (by decide) ?_
  have hw9 : r_3 = 1 := hw9
  subst hw9
  refine lv_iload hx hb d_Lw_law_161 (lv_at hl 1 rfl) ?_
  refine lv_icmp_eq (tgt := 168) hx hb d_Lw_law_163 (by decide) (fun c_163 => ?_) (fun c_163 => absurd c_163 (by decide))
  refine lv_iload hx hb d_Lw_law_168 (lv_at hl 1 rfl) ?_
  refine lv_if_ne (tgt := 185) hx hb d_Lw_law_170 (by decide) (fun c_170 => ?_) (fun c_170 => absurd c_170 (by decide))
  refine lv_goto (tgt := 364) hx hb d_Lw_law_185 (by decide) ?_
  obtain ⟨v_4, ev_4⟩ : ∃ y : Int32, y = 0 + 2 := ⟨_, rfl⟩
  refine lv_iinc (v := v_4) (lv' := [(4, .int v_4), (6, .int 0), (5, .int 1), (0, .ref b), (1, .ref h0), (2, .ref m0), (3, .ref o0)]) hx hb d_Lw_law_364 hl (k := 6) rfl (by rw [ev_4]; rfl) (by decide) rfl (fun ls hl => ?_)
  refine lv_goto (tgt := 23) hx hb d_Lw_law_367 (by decide) ?_
  exact lw_exit C1 (by decide) (by decide) _ _ ls v_4 (by rw [ev_4]; decide) hS (lv_sub hl [3, 0] rfl)

set_option maxHeartbeats 4000000 in
set_option maxRecDepth 100000 in
/-- case 2 -/
theorem lw_c2 {p : Program} {l : Launch} {e : Env} {s : State} {m : MethodId} {below : List Frame} {meth : Method} {c : Code} {dC : Nat → ClassId} {dI : Nat → Nat → Nat} {b : Nat} {xs : Nat → Int32} (hfl : l.flags = pinnedFlags ++ [noTraceFlag]) (C1 : lw_At p s m meth c b 2 xs) (hZ0 : tw_Z s s.heap s.heap.size) (h0 b0 b1 s0 b3 g0 g1 g2 r0 t0 w0 l0 k0 v0 v1 v2 u0 u1 u2 u3 u4 y0 y1 m0 j0 j1 j2 j3 j4 j5 j6 j7 o0 : Nat) (ca cl : ClassId) (fw : Nat → Int32) (fo : Nat → Int64) (H : Heap) (locs : List Loc) (ls : Array Slot) (hK : va_K (dC, dI) vwCl [(ca, .int), (cl, .long)] s) (hP : va_P (dC, dI) vwCl [(h0, .inr (6, [.ref b0, .ref b1, .ref s0, .ref b3, .int 0, .int 0, .int 0, .int 0])), (b1, .inr (2, [.ref g0, .ref g1, .ref g2, .int 0])), (s0, .inr (3, [.ref r0, .ref t0, .ref w0, .ref l0, .ref k0, .ref v0, .ref v1, .ref v2, .int 0, .int 0, .int 0, .int 0])), (t0, .inr (4, [.ref u0, .ref u1, .ref u2, .ref u3, .ref u4, .int 0, .int 0, .int 0, .int 1])), (w0, .inr (5, [.ref r0, .ref t0, .ref y0, .ref y1])), (m0, .inr (7, [.ref j0, .ref j1, .ref j2, .ref j3, .ref j4, .int 0, .int 0, .int 0, .int 0, .int 0, .int 0, .ref j5, .int 0, .ref j6, .ref j7])), (j4, .inl (ca, 401, .inl fw)), (o0, .inl (cl, 1, .inr (.inl fo)))] H) (hD : va_D (fun q : Nat => s.heap.size ≤ q) [(h0, .inr (6, [.ref b0, .ref b1, .ref s0, .ref b3, .int 0, .int 0, .int 0, .int 0])), (b1, .inr (2, [.ref g0, .ref g1, .ref g2, .int 0])), (s0, .inr (3, [.ref r0, .ref t0, .ref w0, .ref l0, .ref k0, .ref v0, .ref v1, .ref v2, .int 0, .int 0, .int 0, .int 0])), (t0, .inr (4, [.ref u0, .ref u1, .ref u2, .ref u3, .ref u4, .int 0, .int 0, .int 0, .int 1])), (w0, .inr (5, [.ref r0, .ref t0, .ref y0, .ref y1])), (m0, .inr (7, [.ref j0, .ref j1, .ref j2, .ref j3, .ref j4, .int 0, .int 0, .int 0, .int 0, .int 0, .int 0, .ref j5, .int 0, .ref j6, .ref j7])), (j4, .inl (ca, 401, .inl fw)), (o0, .inl (cl, 1, .inr (.inl fo)))]) (hS : va_S (fun q : Nat => s.heap.size ≤ q) s.heap H locs) (hl : lv_has ls 7 [(0, .ref b), (1, .ref h0), (2, .ref m0), (3, .ref o0), (4, .int 0)]) : W p l e room_1 s m #[Value.ref b] below meth c H locs 45 95481 (lw_Z below #[Value.ref b] s) (F0 m 188 ls []) := by
  obtain ⟨hx, hb, hr, hml, hown, hts, hX, hbl, hlocks, hgv⟩ := id C1
  have hw : ∀ w ∈ bg_W, w.before #[Value.ref b] s = true := fun w h => hts w (bg_sub w h)
  have hown : s.vm.findClass R_Lw = some m.cls := hown
  have hA : ∀ q : Nat, s.heap.size ≤ q → (fun q : Nat => s.heap.size ≤ q) q := fun _ h => h
  have hbA : ¬ (fun q : Nat => s.heap.size ≤ q) b := Nat.not_le.mpr hbl
  refine lv_aload_n hx hb d_Lw_law_188 rfl (lv_at hl 1 rfl) ?_
  refine lv_aload_n hx hb d_Lw_law_189 rfl (lv_at hl 3 rfl) ?_
  have hZ : tw_Z s H s.heap.size := hZ0.kept (fun a ha => hS.2.1 a ha (Nat.not_le.mpr ha))
  have hPc := hP.sub (ws' := [(h0, .inr (6, [.ref b0, .ref b1, .ref s0, .ref b3, .int 0, .int 0, .int 0, .int 0])), (o0, .inl (cl, 1, .inr (.inl fo)))]) [0, 7] rfl
  have hDc := hD.sub (ws' := [(h0, .inr (6, [.ref b0, .ref b1, .ref s0, .ref b3, .int 0, .int 0, .int 0, .int 0])), (o0, .inl (cl, 1, .inr (.inl fo)))]) [0, 7] (by decide) rfl
  have hKc := hK.sub (tys' := [(cl, .long)]) [1] rfl
  have hFc := va_free (wc := [(h0, .inr (6, [.ref b0, .ref b1, .ref s0, .ref b3, .int 0, .int 0, .int 0, .int 0])), (o0, .inl (cl, 1, .inr (.inl fo)))]) hD hS hA [0, 7] rfl
  refine va_calli (th_runS (n := 2) (As := [.ref h0, .ref o0]) (rest := []) ⟨hx, hb, hml, hown, hw⟩ (c_Lw_clause_1 l hfl dC dI h0 b0 b1 s0 b3 o0 cl H.size s.heap.size 0 0 0 0 fo rfl) k_548 k_28 k_546 k_547 rfl rfl (by decide +kernel) ⟨Nat.le_of_ble_eq_true rfl, Nat.le_of_ble_eq_true rfl⟩ ⟨fun a U g mk q => by obtain ⟨q0, q1, qP, qK, qD, qZ⟩ := q; exact ⟨q0, q1, qP, va_K.moved (u := U) (U := U.calling g mk a) (Vm.Alike.refl U.vm) qK, qD, tw_Z.moved (u := U) (U := U.calling g mk a) (Vm.Alike.refl U.vm) qZ⟩, fun U hU hW => ⟨rfl, by rw [hU], by rw [hU]; exact hPc, va_K.moved hW.alike hKc, hDc.weaken (fun _ _ _ _ => trivial), by rw [hU]; exact hZ.moved hW.alike⟩⟩ rfl rfl hl.1 rfl (lv_room (Nat.le_of_ble_eq_true rfl)) d_Lw_law_190 ⟨Nat.le_of_ble_eq_true rfl, Nat.le_of_ble_eq_true rfl⟩) hS (fun q _ h => hFc q h) hFc (fun r_1 u t H1 locs ht hvm hw9 hB hz1 hk1 hS => ?_)
  obtain ⟨hP1, hK1, hD1⟩ := hB
  rw [ht] at hP1
  have hK1 := va_K.moved hvm.symm hK1
  obtain ⟨hP, hD⟩ := va_join (wr := [(b1, .inr (2, [.ref g0, .ref g1, .ref g2, .int 0])), (s0, .inr (3, [.ref r0, .ref t0, .ref w0, .ref l0, .ref k0, .ref v0, .ref v1, .ref v2, .int 0, .int 0, .int 0, .int 0])), (t0, .inr (4, [.ref u0, .ref u1, .ref u2, .ref u3, .ref u4, .int 0, .int 0, .int 0, .int 1])), (w0, .inr (5, [.ref r0, .ref t0, .ref y0, .ref y1])), (m0, .inr (7, [.ref j0, .ref j1, .ref j2, .ref j3, .ref j4, .int 0, .int 0, .int 0, .int 0, .int 0, .int 0, .ref j5, .int 0, .ref j6, .ref j7])), (j4, .inl (ca, 401, .inl fw))]) (w1 := [(h0, .inr (6, [.ref b0, .ref b1, .ref s0, .ref b3, .int 0, .int 0, .int 0, .int 0])), (o0, .inl (cl, 1, .inr (.inl fo)))]) hP hD [0, 7] [1, 2, 3, 4, 5, 6] rfl rfl (by decide) (by decide) hk1 hFc hP1 hD1
  generalize H1 = H at hP hS ⊢
  have hP : va_P (dC, dI) vwCl [(b1, .inr (2, [.ref g0, .ref g1, .ref g2, .int 0])), (s0, .inr (3, [.ref r0, .ref t0, .ref w0, .ref l0, .ref k0, .ref v0, .ref v1, .ref v2, .int 0, .int 0, .int 0, .int 0])), (t0, .inr (4, [.ref u0, .ref u1, .ref u2, .ref u3, .ref u4, .int 0, .int 0, .int 0, .int 1])), (w0, .inr (5, [.ref r0, .ref t0, .ref y0, .ref y1])), (m0, .inr (7, [.ref j0, .ref j1, .ref j2, .ref j3, .ref j4, .int 0, .int 0, .int 0, .int 0, .int 0, .int 0, .ref j5, .int 0, .ref j6, .ref j7])), (j4, .inl (ca, 401, .inl fw)), (h0, .inr (6, [.ref b0, .ref b1, .ref s0, .ref b3, .int 0, .int 0, .int 0, .int 0])), (o0, .inl (cl, 1, .inr (.inl fo)))] H := hP
  have hD : va_D (fun q : Nat => s.heap.size ≤ q) [(b1, .inr (2, [.ref g0, .ref g1, .ref g2, .int 0])), (s0, .inr (3, [.ref r0, .ref t0, .ref w0, .ref l0, .ref k0, .ref v0, .ref v1, .ref v2, .int 0, .int 0, .int 0, .int 0])), (t0, .inr (4, [.ref u0, .ref u1, .ref u2, .ref u3, .ref u4, .int 0, .int 0, .int 0, .int 1])), (w0, .inr (5, [.ref r0, .ref t0, .ref y0, .ref y1])), (m0, .inr (7, [.ref j0, .ref j1, .ref j2, .ref j3, .ref j4, .int 0, .int 0, .int 0, .int 0, .int 0, .int 0, .ref j5, .int 0, .ref j6, .ref j7])), (j4, .inl (ca, 401, .inl fw)), (h0, .inr (6, [.ref b0, .ref b1, .ref s0, .ref b3, .int 0, .int 0, .int 0, .int 0])), (o0, .inl (cl, 1, .inr (.inl fo)))] := hD
  refine W.widen (k := 46) (n := 95487) (by decide) (by decide) ?_
  have hw9 : r_1 = 1 := hw9
  subst hw9
  refine lv_istore (lv' := [(5, .int 1), (0, .ref b), (1, .ref h0), (2, .ref m0), (3, .ref o0), (4, .int 0)]) hx hb d_Lw_law_193 hl (by decide) rfl (fun ls hl => ?_)
  refine lv_aload_n hx hb d_Lw_law_195 rfl (lv_at hl 3 rfl) ?_
  have hPc := hP.sub (ws' := [(m0, .inr (7, [.ref j0, .ref j1, .ref j2, .ref j3, .ref j4, .int 0, .int 0, .int 0, .int 0, .int 0, .int 0, .ref j5, .int 0, .ref j6, .ref j7]))]) [4] rfl
  have hDc := hD.sub (ws' := [(m0, .inr (7, [.ref j0, .ref j1, .ref j2, .ref j3, .ref j4, .int 0, .int 0, .int 0, .int 0, .int 0, .int 0, .ref j5, .int 0, .ref j6, .ref j7]))]) [4] (by decide) rfl
  have hKc := hK.sub (tys' := []) [] rfl
  have hFc := va_free (wc := [(m0, .inr (7, [.ref j0, .ref j1, .ref j2, .ref j3, .ref j4, .int 0, .int 0, .int 0, .int 0, .int 0, .int 0, .ref j5, .int 0, .ref j6, .ref j7]))]) hD hS hA [4] rfl
  refine va_calli (va_runV (As := []) (rest := []) ⟨hx, hb, hml, hown, hw⟩ (c_Md_clause_1 l dC dI m0 j0 j1 j2 j3 j4 j5 j6 j7 H.size 0 0 0 0 0 0 0 (by decide)) (cb_V (C := R_Md) 0 hw k_669 k_37 k_666 k_667 k_668 rfl rfl (by decide +kernel) ⟨Nat.le_of_ble_eq_true rfl, Nat.le_of_ble_eq_true rfl⟩) ⟨fun a U g mk q => by obtain ⟨q0, q1, qP, qK, qD⟩ := q; exact ⟨q0, q1, qP, va_K.moved (u := U) (U := U.calling g mk a) (Vm.Alike.refl U.vm) qK, qD⟩, va_recv hKc hPc (ci := 7) (q0 := 0) rfl rfl, fun U hU hW => ⟨rfl, by rw [hU], by rw [hU]; exact hPc, va_K.moved hW.alike hKc, hDc.weaken (fun _ _ _ _ => trivial)⟩⟩ rfl rfl hl.1 rfl (lv_room (Nat.le_of_ble_eq_true rfl)) d_Lw_law_196 ⟨Nat.le_of_ble_eq_true rfl, Nat.le_of_ble_eq_true rfl⟩) hS (fun q _ h => hFc q h) hFc (fun r_2 u t H1 locs ht hvm hw9 hB hz1 hk1 hS => ?_)
  obtain ⟨hP1, hK1, hD1⟩ := hB
  rw [ht] at hP1
  have hK1 := va_K.moved hvm.symm hK1
  obtain ⟨hP, hD⟩ := va_join (wr := [(b1, .inr (2, [.ref g0, .ref g1, .ref g2, .int 0])), (s0, .inr (3, [.ref r0, .ref t0, .ref w0, .ref l0, .ref k0, .ref v0, .ref v1, .ref v2, .int 0, .int 0, .int 0, .int 0])), (t0, .inr (4, [.ref u0, .ref u1, .ref u2, .ref u3, .ref u4, .int 0, .int 0, .int 0, .int 1])), (w0, .inr (5, [.ref r0, .ref t0, .ref y0, .ref y1])), (j4, .inl (ca, 401, .inl fw)), (h0, .inr (6, [.ref b0, .ref b1, .ref s0, .ref b3, .int 0, .int 0, .int 0, .int 0])), (o0, .inl (cl, 1, .inr (.inl fo)))]) (w1 := [(m0, .inr (7, [.ref j0, .ref j1, .ref j2, .ref j3, .ref j4, .int 0, .int 0, .int 0, .int 0, .int 0, .int 1, .ref j5, .int 0, .ref j6, .ref j7]))]) hP hD [4] [0, 1, 2, 3, 5, 6, 7] rfl rfl (by decide) (by decide) hk1 hFc hP1 hD1
  generalize H1 = H at hP hS ⊢
  have hP : va_P (dC, dI) vwCl [(b1, .inr (2, [.ref g0, .ref g1, .ref g2, .int 0])), (s0, .inr (3, [.ref r0, .ref t0, .ref w0, .ref l0, .ref k0, .ref v0, .ref v1, .ref v2, .int 0, .int 0, .int 0, .int 0])), (t0, .inr (4, [.ref u0, .ref u1, .ref u2, .ref u3, .ref u4, .int 0, .int 0, .int 0, .int 1])), (w0, .inr (5, [.ref r0, .ref t0, .ref y0, .ref y1])), (j4, .inl (ca, 401, .inl fw)), (h0, .inr (6, [.ref b0, .ref b1, .ref s0, .ref b3, .int 0, .int 0, .int 0, .int 0])), (o0, .inl (cl, 1, .inr (.inl fo))), (m0, .inr (7, [.ref j0, .ref j1, .ref j2, .ref j3, .ref j4, .int 0, .int 0, .int 0, .int 0, .int 0, .int 1, .ref j5, .int 0, .ref j6, .ref j7]))] H := hP
  have hD : va_D (fun q : Nat => s.heap.size ≤ q) [(b1, .inr (2, [.ref g0, .ref g1, .ref g2, .int 0])), (s0, .inr (3, [.ref r0, .ref t0, .ref w0, .ref l0, .ref k0, .ref v0, .ref v1, .ref v2, .int 0, .int 0, .int 0, .int 0])), (t0, .inr (4, [.ref u0, .ref u1, .ref u2, .ref u3, .ref u4, .int 0, .int 0, .int 0, .int 1])), (w0, .inr (5, [.ref r0, .ref t0, .ref y0, .ref y1])), (j4, .inl (ca, 401, .inl fw)), (h0, .inr (6, [.ref b0, .ref b1, .ref s0, .ref b3, .int 0, .int 0, .int 0, .int 0])), (o0, .inl (cl, 1, .inr (.inl fo))), (m0, .inr (7, [.ref j0, .ref j1, .ref j2, .ref j3, .ref j4, .int 0, .int 0, .int 0, .int 0, .int 0, .int 1, .ref j5, .int 0, .ref j6, .ref j7]))] := hD
  refine W.widen (k := 46) (n := 95487) (by decide) (by decide) ?_
  have hw9 : r_2 = 0 := hw9
  subst hw9
  refine lv_istore (lv' := [(6, .int 0), (5, .int 1), (0, .ref b), (1, .ref h0), (2, .ref m0), (3, .ref o0), (4, .int 0)]) hx hb d_Lw_law_199 hl (by decide) rfl (fun ls hl => ?_)
  refine lv_aload_n hx hb d_Lw_law_201 rfl (lv_at hl 4 rfl) ?_
  have hPc := hP.sub (ws' := [(m0, .inr (7, [.ref j0, .ref j1, .ref j2, .ref j3, .ref j4, .int 0, .int 0, .int 0, .int 0, .int 0, .int 1, .ref j5, .int 0, .ref j6, .ref j7]))]) [7] rfl
  have hDc := hD.sub (ws' := [(m0, .inr (7, [.ref j0, .ref j1, .ref j2, .ref j3, .ref j4, .int 0, .int 0, .int 0, .int 0, .int 0, .int 1, .ref j5, .int 0, .ref j6, .ref j7]))]) [7] (by decide) rfl
  have hKc := hK.sub (tys' := []) [] rfl
  have hFc := va_free (wc := [(m0, .inr (7, [.ref j0, .ref j1, .ref j2, .ref j3, .ref j4, .int 0, .int 0, .int 0, .int 0, .int 0, .int 1, .ref j5, .int 0, .ref j6, .ref j7]))]) hD hS hA [7] rfl
  refine va_calli (va_runV (As := []) (rest := []) ⟨hx, hb, hml, hown, hw⟩ (c_Md_thrown l dC dI m0 j0 j1 j2 j3 j4 j5 j6 j7 H.size 0 0 0 0 0 1 0) (cb_V (C := R_Md) 0 hw k_653 k_37 k_650 k_651 k_652 rfl rfl (by decide +kernel) ⟨Nat.le_of_ble_eq_true rfl, Nat.le_of_ble_eq_true rfl⟩) ⟨fun a U g mk q => by obtain ⟨q0, q1, qP, qK, qD⟩ := q; exact ⟨q0, q1, qP, va_K.moved (u := U) (U := U.calling g mk a) (Vm.Alike.refl U.vm) qK, qD⟩, va_recv hKc hPc (ci := 7) (q0 := 0) rfl rfl, fun U hU hW => ⟨rfl, by rw [hU], by rw [hU]; exact hPc, va_K.moved hW.alike hKc, hDc.weaken (fun _ _ _ _ => trivial)⟩⟩ rfl rfl hl.1 rfl (lv_room (Nat.le_of_ble_eq_true rfl)) d_Lw_law_202 ⟨Nat.le_of_ble_eq_true rfl, Nat.le_of_ble_eq_true rfl⟩) hS (fun q _ h => hFc q h) hFc (fun r_3 u t H1 locs ht hvm hw9 hB hz1 hk1 hS => ?_)
  obtain ⟨hP1, hK1, hD1⟩ := hB
  rw [ht] at hP1
  have hK1 := va_K.moved hvm.symm hK1
  obtain ⟨hP, hD⟩ := va_join (wr := [(b1, .inr (2, [.ref g0, .ref g1, .ref g2, .int 0])), (s0, .inr (3, [.ref r0, .ref t0, .ref w0, .ref l0, .ref k0, .ref v0, .ref v1, .ref v2, .int 0, .int 0, .int 0, .int 0])), (t0, .inr (4, [.ref u0, .ref u1, .ref u2, .ref u3, .ref u4, .int 0, .int 0, .int 0, .int 1])), (w0, .inr (5, [.ref r0, .ref t0, .ref y0, .ref y1])), (j4, .inl (ca, 401, .inl fw)), (h0, .inr (6, [.ref b0, .ref b1, .ref s0, .ref b3, .int 0, .int 0, .int 0, .int 0])), (o0, .inl (cl, 1, .inr (.inl fo)))]) (w1 := [(m0, .inr (7, [.ref j0, .ref j1, .ref j2, .ref j3, .ref j4, .int 0, .int 0, .int 0, .int 0, .int 0, .int 1, .ref j5, .int 0, .ref j6, .ref j7]))]) hP hD [7] [0, 1, 2, 3, 4, 5, 6] rfl rfl (by decide) (by decide) hk1 hFc hP1 hD1
  generalize H1 = H at hP hS ⊢
  have hP : va_P (dC, dI) vwCl [(b1, .inr (2, [.ref g0, .ref g1, .ref g2, .int 0])), (s0, .inr (3, [.ref r0, .ref t0, .ref w0, .ref l0, .ref k0, .ref v0, .ref v1, .ref v2, .int 0, .int 0, .int 0, .int 0])), (t0, .inr (4, [.ref u0, .ref u1, .ref u2, .ref u3, .ref u4, .int 0, .int 0, .int 0, .int 1])), (w0, .inr (5, [.ref r0, .ref t0, .ref y0, .ref y1])), (j4, .inl (ca, 401, .inl fw)), (h0, .inr (6, [.ref b0, .ref b1, .ref s0, .ref b3, .int 0, .int 0, .int 0, .int 0])), (o0, .inl (cl, 1, .inr (.inl fo))), (m0, .inr (7, [.ref j0, .ref j1, .ref j2, .ref j3, .ref j4, .int 0, .int 0, .int 0, .int 0, .int 0, .int 1, .ref j5, .int 0, .ref j6, .ref j7]))] H := hP
  have hD : va_D (fun q : Nat => s.heap.size ≤ q) [(b1, .inr (2, [.ref g0, .ref g1, .ref g2, .int 0])), (s0, .inr (3, [.ref r0, .ref t0, .ref w0, .ref l0, .ref k0, .ref v0, .ref v1, .ref v2, .int 0, .int 0, .int 0, .int 0])), (t0, .inr (4, [.ref u0, .ref u1, .ref u2, .ref u3, .ref u4, .int 0, .int 0, .int 0, .int 1])), (w0, .inr (5, [.ref r0, .ref t0, .ref y0, .ref y1])), (j4, .inl (ca, 401, .inl fw)), (h0, .inr (6, [.ref b0, .ref b1, .ref s0, .ref b3, .int 0, .int 0, .int 0, .int 0])), (o0, .inl (cl, 1, .inr (.inl fo))), (m0, .inr (7, [.ref j0, .ref j1, .ref j2, .ref j3, .ref j4, .int 0, .int 0, .int 0, .int 0, .int 0, .int 1, .ref j5, .int 0, .ref j6, .ref j7]))] := hD
  refine W.widen (k := 46) (n := 95487) (by decide) (by decide) ?_
  have hw9 : r_3 = 1 := hw9
  subst hw9
  refine lv_iload hx hb d_Lw_law_205 (lv_at hl 1 rfl) ?_
  refine lv_icmp_eq (tgt := 212) hx hb d_Lw_law_207 (by decide) (fun c_207 => ?_) (fun c_207 => absurd c_207 (by decide))
  refine lv_iload hx hb d_Lw_law_212 (lv_at hl 1 rfl) ?_
  refine lv_if_ne (tgt := 229) hx hb d_Lw_law_214 (by decide) (fun c_214 => ?_) (fun c_214 => absurd c_214 (by decide))
  refine lv_goto (tgt := 364) hx hb d_Lw_law_229 (by decide) ?_
  obtain ⟨v_4, ev_4⟩ : ∃ y : Int32, y = 0 + 2 := ⟨_, rfl⟩
  refine lv_iinc (v := v_4) (lv' := [(4, .int v_4), (6, .int 0), (5, .int 1), (0, .ref b), (1, .ref h0), (2, .ref m0), (3, .ref o0)]) hx hb d_Lw_law_364 hl (k := 6) rfl (by rw [ev_4]; rfl) (by decide) rfl (fun ls hl => ?_)
  refine lv_goto (tgt := 23) hx hb d_Lw_law_367 (by decide) ?_
  exact lw_exit C1 (by decide) (by decide) _ _ ls v_4 (by rw [ev_4]; decide) hS (lv_sub hl [3, 0] rfl)

set_option maxHeartbeats 4000000 in
set_option maxRecDepth 100000 in
/-- case 3 -/
theorem lw_c3 {p : Program} {l : Launch} {e : Env} {s : State} {m : MethodId} {below : List Frame} {meth : Method} {c : Code} {dC : Nat → ClassId} {dI : Nat → Nat → Nat} {b : Nat} {xs : Nat → Int32} (hfl : l.flags = pinnedFlags ++ [noTraceFlag]) (C1 : lw_At p s m meth c b 2 xs) (hZ0 : tw_Z s s.heap s.heap.size) (h0 b0 b1 s0 b3 g0 g1 g2 r0 t0 w0 l0 k0 v0 v1 v2 u0 u1 u2 u3 u4 y0 y1 m0 j0 j1 j2 j3 j4 j5 j6 j7 o0 : Nat) (ca cl : ClassId) (fw : Nat → Int32) (fo : Nat → Int64) (H : Heap) (locs : List Loc) (ls : Array Slot) (hK : va_K (dC, dI) vwCl [(ca, .int), (cl, .long)] s) (hP : va_P (dC, dI) vwCl [(h0, .inr (6, [.ref b0, .ref b1, .ref s0, .ref b3, .int 0, .int 0, .int 0, .int 0])), (b1, .inr (2, [.ref g0, .ref g1, .ref g2, .int 0])), (s0, .inr (3, [.ref r0, .ref t0, .ref w0, .ref l0, .ref k0, .ref v0, .ref v1, .ref v2, .int 0, .int 0, .int 0, .int 0])), (t0, .inr (4, [.ref u0, .ref u1, .ref u2, .ref u3, .ref u4, .int 0, .int 0, .int 0, .int 1])), (w0, .inr (5, [.ref r0, .ref t0, .ref y0, .ref y1])), (m0, .inr (7, [.ref j0, .ref j1, .ref j2, .ref j3, .ref j4, .int 0, .int 0, .int 0, .int 0, .int 0, .int 0, .ref j5, .int 0, .ref j6, .ref j7])), (j4, .inl (ca, 401, .inl fw)), (o0, .inl (cl, 1, .inr (.inl fo)))] H) (hD : va_D (fun q : Nat => s.heap.size ≤ q) [(h0, .inr (6, [.ref b0, .ref b1, .ref s0, .ref b3, .int 0, .int 0, .int 0, .int 0])), (b1, .inr (2, [.ref g0, .ref g1, .ref g2, .int 0])), (s0, .inr (3, [.ref r0, .ref t0, .ref w0, .ref l0, .ref k0, .ref v0, .ref v1, .ref v2, .int 0, .int 0, .int 0, .int 0])), (t0, .inr (4, [.ref u0, .ref u1, .ref u2, .ref u3, .ref u4, .int 0, .int 0, .int 0, .int 1])), (w0, .inr (5, [.ref r0, .ref t0, .ref y0, .ref y1])), (m0, .inr (7, [.ref j0, .ref j1, .ref j2, .ref j3, .ref j4, .int 0, .int 0, .int 0, .int 0, .int 0, .int 0, .ref j5, .int 0, .ref j6, .ref j7])), (j4, .inl (ca, 401, .inl fw)), (o0, .inl (cl, 1, .inr (.inl fo)))]) (hS : va_S (fun q : Nat => s.heap.size ≤ q) s.heap H locs) (hl : lv_has ls 7 [(0, .ref b), (1, .ref h0), (2, .ref m0), (3, .ref o0), (4, .int 0)]) : W p l e room_1 s m #[Value.ref b] below meth c H locs 45 95481 (lw_Z below #[Value.ref b] s) (F0 m 232 ls []) := by
  obtain ⟨hx, hb, hr, hml, hown, hts, hX, hbl, hlocks, hgv⟩ := id C1
  have hw : ∀ w ∈ bg_W, w.before #[Value.ref b] s = true := fun w h => hts w (bg_sub w h)
  have hown : s.vm.findClass R_Lw = some m.cls := hown
  have hA : ∀ q : Nat, s.heap.size ≤ q → (fun q : Nat => s.heap.size ≤ q) q := fun _ h => h
  have hbA : ¬ (fun q : Nat => s.heap.size ≤ q) b := Nat.not_le.mpr hbl
  refine lv_aload_n hx hb d_Lw_law_232 rfl (lv_at hl 1 rfl) ?_
  have hPc := hP.sub (ws' := [(h0, .inr (6, [.ref b0, .ref b1, .ref s0, .ref b3, .int 0, .int 0, .int 0, .int 0])), (b1, .inr (2, [.ref g0, .ref g1, .ref g2, .int 0])), (s0, .inr (3, [.ref r0, .ref t0, .ref w0, .ref l0, .ref k0, .ref v0, .ref v1, .ref v2, .int 0, .int 0, .int 0, .int 0])), (t0, .inr (4, [.ref u0, .ref u1, .ref u2, .ref u3, .ref u4, .int 0, .int 0, .int 0, .int 1])), (w0, .inr (5, [.ref r0, .ref t0, .ref y0, .ref y1]))]) [0, 1, 2, 3, 4] rfl
  have hDc := hD.sub (ws' := [(h0, .inr (6, [.ref b0, .ref b1, .ref s0, .ref b3, .int 0, .int 0, .int 0, .int 0])), (b1, .inr (2, [.ref g0, .ref g1, .ref g2, .int 0])), (s0, .inr (3, [.ref r0, .ref t0, .ref w0, .ref l0, .ref k0, .ref v0, .ref v1, .ref v2, .int 0, .int 0, .int 0, .int 0])), (t0, .inr (4, [.ref u0, .ref u1, .ref u2, .ref u3, .ref u4, .int 0, .int 0, .int 0, .int 1])), (w0, .inr (5, [.ref r0, .ref t0, .ref y0, .ref y1]))]) [0, 1, 2, 3, 4] (by decide) rfl
  have hKc := hK.sub (tys' := []) [] rfl
  have hFc := va_free (wc := [(h0, .inr (6, [.ref b0, .ref b1, .ref s0, .ref b3, .int 0, .int 0, .int 0, .int 0])), (b1, .inr (2, [.ref g0, .ref g1, .ref g2, .int 0])), (s0, .inr (3, [.ref r0, .ref t0, .ref w0, .ref l0, .ref k0, .ref v0, .ref v1, .ref v2, .int 0, .int 0, .int 0, .int 0])), (t0, .inr (4, [.ref u0, .ref u1, .ref u2, .ref u3, .ref u4, .int 0, .int 0, .int 0, .int 1])), (w0, .inr (5, [.ref r0, .ref t0, .ref y0, .ref y1]))]) hD hS hA [0, 1, 2, 3, 4] rfl
  refine va_calli (va_runV (As := []) (rest := []) ⟨hx, hb, hml, hown, hw⟩ (c_Cs_solve_0 l dC dI h0 b0 b1 s0 b3 g0 g1 g2 r0 t0 w0 l0 k0 v0 v1 v2 u0 u1 u2 u3 u4 y0 y1 H.size) (cb_V (C := R_Cs) 0 hw k_283 k_29 k_280 k_281 k_282 rfl rfl (by decide +kernel) ⟨Nat.le_of_ble_eq_true rfl, Nat.le_of_ble_eq_true rfl⟩) ⟨fun a U g mk q => by obtain ⟨q0, q1, qP, qK, qD⟩ := q; exact ⟨q0, q1, qP, va_K.moved (u := U) (U := U.calling g mk a) (Vm.Alike.refl U.vm) qK, qD⟩, va_recv hKc hPc (ci := 6) (q0 := 0) rfl rfl, fun U hU hW => ⟨rfl, by rw [hU], by rw [hU]; exact hPc, va_K.moved hW.alike hKc, hDc.weaken (fun _ _ _ _ => trivial)⟩⟩ rfl rfl hl.1 rfl (lv_room (Nat.le_of_ble_eq_true rfl)) d_Lw_law_233 ⟨Nat.le_of_ble_eq_true rfl, Nat.le_of_ble_eq_true rfl⟩) hS (fun q _ h => hFc q h) hFc (fun r_1 u t H1 locs ht hvm hw9 hB hz1 hk1 hS => ?_)
  obtain ⟨hP1, hK1, hD1⟩ := hB
  rw [ht] at hP1
  have hK1 := va_K.moved hvm.symm hK1
  obtain ⟨hP, hD⟩ := va_join (wr := [(m0, .inr (7, [.ref j0, .ref j1, .ref j2, .ref j3, .ref j4, .int 0, .int 0, .int 0, .int 0, .int 0, .int 0, .ref j5, .int 0, .ref j6, .ref j7])), (j4, .inl (ca, 401, .inl fw)), (o0, .inl (cl, 1, .inr (.inl fo)))]) (w1 := [(w0, .inr (5, [.ref r0, .ref t0, .ref y0, .ref y1])), (t0, .inr (4, [.ref u0, .ref u1, .ref u2, .ref u3, .ref u4, .int 0, .int 0, .int 0, .int 1])), (s0, .inr (3, [.ref r0, .ref t0, .ref w0, .ref l0, .ref k0, .ref v0, .ref v1, .ref v2, .int 0, .int 0, .int 0, .int 0])), (h0, .inr (6, [.ref b0, .ref b1, .ref s0, .ref b3, .int 0, .int 0, .int 1, .int 0])), (b1, .inr (2, [.ref g0, .ref g1, .ref g2, .int 0]))]) hP hD [0, 1, 2, 3, 4] [5, 6, 7] rfl rfl (by decide) (by decide) hk1 hFc hP1 hD1
  generalize H1 = H at hP hS ⊢
  have hP : va_P (dC, dI) vwCl [(m0, .inr (7, [.ref j0, .ref j1, .ref j2, .ref j3, .ref j4, .int 0, .int 0, .int 0, .int 0, .int 0, .int 0, .ref j5, .int 0, .ref j6, .ref j7])), (j4, .inl (ca, 401, .inl fw)), (o0, .inl (cl, 1, .inr (.inl fo))), (w0, .inr (5, [.ref r0, .ref t0, .ref y0, .ref y1])), (t0, .inr (4, [.ref u0, .ref u1, .ref u2, .ref u3, .ref u4, .int 0, .int 0, .int 0, .int 1])), (s0, .inr (3, [.ref r0, .ref t0, .ref w0, .ref l0, .ref k0, .ref v0, .ref v1, .ref v2, .int 0, .int 0, .int 0, .int 0])), (h0, .inr (6, [.ref b0, .ref b1, .ref s0, .ref b3, .int 0, .int 0, .int 1, .int 0])), (b1, .inr (2, [.ref g0, .ref g1, .ref g2, .int 0]))] H := hP
  have hD : va_D (fun q : Nat => s.heap.size ≤ q) [(m0, .inr (7, [.ref j0, .ref j1, .ref j2, .ref j3, .ref j4, .int 0, .int 0, .int 0, .int 0, .int 0, .int 0, .ref j5, .int 0, .ref j6, .ref j7])), (j4, .inl (ca, 401, .inl fw)), (o0, .inl (cl, 1, .inr (.inl fo))), (w0, .inr (5, [.ref r0, .ref t0, .ref y0, .ref y1])), (t0, .inr (4, [.ref u0, .ref u1, .ref u2, .ref u3, .ref u4, .int 0, .int 0, .int 0, .int 1])), (s0, .inr (3, [.ref r0, .ref t0, .ref w0, .ref l0, .ref k0, .ref v0, .ref v1, .ref v2, .int 0, .int 0, .int 0, .int 0])), (h0, .inr (6, [.ref b0, .ref b1, .ref s0, .ref b3, .int 0, .int 0, .int 1, .int 0])), (b1, .inr (2, [.ref g0, .ref g1, .ref g2, .int 0]))] := hD
  refine W.widen (k := 45) (n := 95481) (by decide) (by decide) ?_
  have hw9 : r_1 = 1 := hw9
  subst hw9
  refine lv_aload_n hx hb d_Lw_law_236 rfl (lv_at hl 2 rfl) ?_
  have hPc := hP.sub (ws' := [(m0, .inr (7, [.ref j0, .ref j1, .ref j2, .ref j3, .ref j4, .int 0, .int 0, .int 0, .int 0, .int 0, .int 0, .ref j5, .int 0, .ref j6, .ref j7])), (j4, .inl (ca, 401, .inl fw))]) [0, 1] rfl
  have hDc := hD.sub (ws' := [(m0, .inr (7, [.ref j0, .ref j1, .ref j2, .ref j3, .ref j4, .int 0, .int 0, .int 0, .int 0, .int 0, .int 0, .ref j5, .int 0, .ref j6, .ref j7])), (j4, .inl (ca, 401, .inl fw))]) [0, 1] (by decide) rfl
  have hKc := hK.sub (tys' := [(ca, .int)]) [0] rfl
  have hFc := va_free (wc := [(m0, .inr (7, [.ref j0, .ref j1, .ref j2, .ref j3, .ref j4, .int 0, .int 0, .int 0, .int 0, .int 0, .int 0, .ref j5, .int 0, .ref j6, .ref j7])), (j4, .inl (ca, 401, .inl fw))]) hD hS hA [0, 1] rfl
  refine va_calli (va_runV (As := []) (rest := [.int 1]) ⟨hx, hb, hml, hown, hw⟩ (c_Md_solve_0 l dC dI m0 j0 j1 j2 j3 j4 j5 j6 j7 ca H.size fw) (cb_V (C := R_Md) 0 hw k_673 k_37 k_670 k_671 k_672 rfl rfl (by decide +kernel) ⟨Nat.le_of_ble_eq_true rfl, Nat.le_of_ble_eq_true rfl⟩) ⟨fun a U g mk q => by obtain ⟨q0, q1, qP, qK, qD⟩ := q; exact ⟨q0, q1, qP, va_K.moved (u := U) (U := U.calling g mk a) (Vm.Alike.refl U.vm) qK, qD⟩, va_recv hKc hPc (ci := 7) (q0 := 0) rfl rfl, fun U hU hW => ⟨rfl, by rw [hU], by rw [hU]; exact hPc, va_K.moved hW.alike hKc, hDc.weaken (fun _ _ _ _ => trivial)⟩⟩ rfl rfl hl.1 rfl (lv_room (Nat.le_of_ble_eq_true rfl)) d_Lw_law_237 ⟨Nat.le_of_ble_eq_true rfl, Nat.le_of_ble_eq_true rfl⟩) hS (fun q _ h => hFc q h) hFc (fun r_2 u t H1 locs ht hvm hw9 hB hz1 hk1 hS => ?_)
  obtain ⟨g_3, f_4, hP1, hK1, hD1⟩ := hB
  rw [ht] at hP1
  have hK1 := va_K.moved hvm.symm hK1
  obtain ⟨hP, hD⟩ := va_join (wr := [(o0, .inl (cl, 1, .inr (.inl fo))), (w0, .inr (5, [.ref r0, .ref t0, .ref y0, .ref y1])), (t0, .inr (4, [.ref u0, .ref u1, .ref u2, .ref u3, .ref u4, .int 0, .int 0, .int 0, .int 1])), (s0, .inr (3, [.ref r0, .ref t0, .ref w0, .ref l0, .ref k0, .ref v0, .ref v1, .ref v2, .int 0, .int 0, .int 0, .int 0])), (h0, .inr (6, [.ref b0, .ref b1, .ref s0, .ref b3, .int 0, .int 0, .int 1, .int 0])), (b1, .inr (2, [.ref g0, .ref g1, .ref g2, .int 0]))]) (w1 := [(j4, .inl (ca, 401, .inl g_3)), (m0, .inr (7, [.ref j0, .ref j1, .ref j2, .ref j3, .ref j4, .int 0, .int 0, .int 0, .int 0, .int 1, .int 0, .ref j5, .int 0, .ref j6, .ref j7]))]) hP hD [0, 1] [2, 3, 4, 5, 6, 7] rfl rfl (by decide) (by decide) hk1 hFc hP1 hD1
  generalize H1 = H at hP hS ⊢
  have hP : va_P (dC, dI) vwCl [(o0, .inl (cl, 1, .inr (.inl fo))), (w0, .inr (5, [.ref r0, .ref t0, .ref y0, .ref y1])), (t0, .inr (4, [.ref u0, .ref u1, .ref u2, .ref u3, .ref u4, .int 0, .int 0, .int 0, .int 1])), (s0, .inr (3, [.ref r0, .ref t0, .ref w0, .ref l0, .ref k0, .ref v0, .ref v1, .ref v2, .int 0, .int 0, .int 0, .int 0])), (h0, .inr (6, [.ref b0, .ref b1, .ref s0, .ref b3, .int 0, .int 0, .int 1, .int 0])), (b1, .inr (2, [.ref g0, .ref g1, .ref g2, .int 0])), (j4, .inl (ca, 401, .inl g_3)), (m0, .inr (7, [.ref j0, .ref j1, .ref j2, .ref j3, .ref j4, .int 0, .int 0, .int 0, .int 0, .int 1, .int 0, .ref j5, .int 0, .ref j6, .ref j7]))] H := hP
  have hD : va_D (fun q : Nat => s.heap.size ≤ q) [(o0, .inl (cl, 1, .inr (.inl fo))), (w0, .inr (5, [.ref r0, .ref t0, .ref y0, .ref y1])), (t0, .inr (4, [.ref u0, .ref u1, .ref u2, .ref u3, .ref u4, .int 0, .int 0, .int 0, .int 1])), (s0, .inr (3, [.ref r0, .ref t0, .ref w0, .ref l0, .ref k0, .ref v0, .ref v1, .ref v2, .int 0, .int 0, .int 0, .int 0])), (h0, .inr (6, [.ref b0, .ref b1, .ref s0, .ref b3, .int 0, .int 0, .int 1, .int 0])), (b1, .inr (2, [.ref g0, .ref g1, .ref g2, .int 0])), (j4, .inl (ca, 401, .inl g_3)), (m0, .inr (7, [.ref j0, .ref j1, .ref j2, .ref j3, .ref j4, .int 0, .int 0, .int 0, .int 0, .int 1, .int 0, .ref j5, .int 0, .ref j6, .ref j7]))] := hD
  refine W.widen (k := 45) (n := 95481) (by decide) (by decide) ?_
  have hw9 : r_2 = 1 := hw9
  subst hw9
  refine lv_icmp_eq (tgt := 364) hx hb d_Lw_law_240 (by decide) (fun c_240 => ?_) (fun c_240 => absurd c_240 (by decide))
  obtain ⟨v_5, ev_5⟩ : ∃ y : Int32, y = 0 + 2 := ⟨_, rfl⟩
  refine lv_iinc (v := v_5) (lv' := [(4, .int v_5), (0, .ref b), (1, .ref h0), (2, .ref m0), (3, .ref o0)]) hx hb d_Lw_law_364 hl (k := 4) rfl (by rw [ev_5]; rfl) (by decide) rfl (fun ls hl => ?_)
  refine lv_goto (tgt := 23) hx hb d_Lw_law_367 (by decide) ?_
  exact lw_exit C1 (by decide) (by decide) _ _ ls v_5 (by rw [ev_5]; decide) hS (lv_sub hl [1, 0] rfl)

set_option maxHeartbeats 4000000 in
set_option maxRecDepth 100000 in
/-- case 4 -/
theorem lw_c4 {p : Program} {l : Launch} {e : Env} {s : State} {m : MethodId} {below : List Frame} {meth : Method} {c : Code} {dC : Nat → ClassId} {dI : Nat → Nat → Nat} {b : Nat} {xs : Nat → Int32} (hfl : l.flags = pinnedFlags ++ [noTraceFlag]) (C1 : lw_At p s m meth c b 2 xs) (hZ0 : tw_Z s s.heap s.heap.size) (h0 b0 b1 s0 b3 g0 g1 g2 r0 t0 w0 l0 k0 v0 v1 v2 u0 u1 u2 u3 u4 y0 y1 m0 j0 j1 j2 j3 j4 j5 j6 j7 o0 : Nat) (ca cl : ClassId) (fw : Nat → Int32) (fo : Nat → Int64) (H : Heap) (locs : List Loc) (ls : Array Slot) (hK : va_K (dC, dI) vwCl [(ca, .int), (cl, .long)] s) (hP : va_P (dC, dI) vwCl [(h0, .inr (6, [.ref b0, .ref b1, .ref s0, .ref b3, .int 0, .int 0, .int 0, .int 0])), (b1, .inr (2, [.ref g0, .ref g1, .ref g2, .int 0])), (s0, .inr (3, [.ref r0, .ref t0, .ref w0, .ref l0, .ref k0, .ref v0, .ref v1, .ref v2, .int 0, .int 0, .int 0, .int 0])), (t0, .inr (4, [.ref u0, .ref u1, .ref u2, .ref u3, .ref u4, .int 0, .int 0, .int 0, .int 1])), (w0, .inr (5, [.ref r0, .ref t0, .ref y0, .ref y1])), (m0, .inr (7, [.ref j0, .ref j1, .ref j2, .ref j3, .ref j4, .int 0, .int 0, .int 0, .int 0, .int 0, .int 0, .ref j5, .int 0, .ref j6, .ref j7])), (j4, .inl (ca, 401, .inl fw)), (o0, .inl (cl, 1, .inr (.inl fo)))] H) (hD : va_D (fun q : Nat => s.heap.size ≤ q) [(h0, .inr (6, [.ref b0, .ref b1, .ref s0, .ref b3, .int 0, .int 0, .int 0, .int 0])), (b1, .inr (2, [.ref g0, .ref g1, .ref g2, .int 0])), (s0, .inr (3, [.ref r0, .ref t0, .ref w0, .ref l0, .ref k0, .ref v0, .ref v1, .ref v2, .int 0, .int 0, .int 0, .int 0])), (t0, .inr (4, [.ref u0, .ref u1, .ref u2, .ref u3, .ref u4, .int 0, .int 0, .int 0, .int 1])), (w0, .inr (5, [.ref r0, .ref t0, .ref y0, .ref y1])), (m0, .inr (7, [.ref j0, .ref j1, .ref j2, .ref j3, .ref j4, .int 0, .int 0, .int 0, .int 0, .int 0, .int 0, .ref j5, .int 0, .ref j6, .ref j7])), (j4, .inl (ca, 401, .inl fw)), (o0, .inl (cl, 1, .inr (.inl fo)))]) (hS : va_S (fun q : Nat => s.heap.size ≤ q) s.heap H locs) (hl : lv_has ls 7 [(0, .ref b), (1, .ref h0), (2, .ref m0), (3, .ref o0), (4, .int 0)]) : W p l e room_1 s m #[Value.ref b] below meth c H locs 45 95481 (lw_Z below #[Value.ref b] s) (F0 m 245 ls []) := by
  obtain ⟨hx, hb, hr, hml, hown, hts, hX, hbl, hlocks, hgv⟩ := id C1
  have hw : ∀ w ∈ bg_W, w.before #[Value.ref b] s = true := fun w h => hts w (bg_sub w h)
  have hown : s.vm.findClass R_Lw = some m.cls := hown
  have hA : ∀ q : Nat, s.heap.size ≤ q → (fun q : Nat => s.heap.size ≤ q) q := fun _ h => h
  have hbA : ¬ (fun q : Nat => s.heap.size ≤ q) b := Nat.not_le.mpr hbl
  refine lv_aload_n hx hb d_Lw_law_245 rfl (lv_at hl 1 rfl) ?_
  refine lv_aload_n hx hb d_Lw_law_246 rfl (lv_at hl 0 rfl) ?_
  refine lv_iload hx hb d_Lw_law_247 (lv_at hl 4 rfl) ?_
  refine lv_iconst (v := 1) hx hb d_Lw_law_249 (by decide) ?_
  refine lv_iadd hx hb d_Lw_law_250 ?_
  refine va_sld hx hb hX hbl hbA hS (by unfold vp_in; decide) d_Lw_law_251 ?_
  refine lv_aload_n hx hb d_Lw_law_252 rfl (lv_at hl 3 rfl) ?_
  have hZ : tw_Z s H s.heap.size := hZ0.kept (fun a ha => hS.2.1 a ha (Nat.not_le.mpr ha))
  have hPc := hP.sub (ws' := [(h0, .inr (6, [.ref b0, .ref b1, .ref s0, .ref b3, .int 0, .int 0, .int 0, .int 0])), (o0, .inl (cl, 1, .inr (.inl fo)))]) [0, 7] rfl
  have hDc := hD.sub (ws' := [(h0, .inr (6, [.ref b0, .ref b1, .ref s0, .ref b3, .int 0, .int 0, .int 0, .int 0])), (o0, .inl (cl, 1, .inr (.inl fo)))]) [0, 7] (by decide) rfl
  have hKc := hK.sub (tys' := [(cl, .long)]) [1] rfl
  have hFc := va_free (wc := [(h0, .inr (6, [.ref b0, .ref b1, .ref s0, .ref b3, .int 0, .int 0, .int 0, .int 0])), (o0, .inl (cl, 1, .inr (.inl fo)))]) hD hS hA [0, 7] rfl
  refine va_calli (th_runS (n := 3) (As := [.ref h0, .int (xs (0 + 1 : Int32).toNatClampNeg), .ref o0]) (rest := []) ⟨hx, hb, hml, hown, hw⟩ (c_Lw_value_1 l hfl dC dI h0 b0 b1 s0 b3 o0 cl H.size s.heap.size 0 0 0 0 (xs (0 + 1 : Int32).toNatClampNeg) fo (one_z _)) k_582 k_28 k_580 k_581 rfl rfl (by decide +kernel) ⟨Nat.le_of_ble_eq_true rfl, Nat.le_of_ble_eq_true rfl⟩ ⟨fun a U g mk q => by obtain ⟨q0, q1, qP, qK, qD, qZ⟩ := q; exact ⟨q0, q1, qP, va_K.moved (u := U) (U := U.calling g mk a) (Vm.Alike.refl U.vm) qK, qD, tw_Z.moved (u := U) (U := U.calling g mk a) (Vm.Alike.refl U.vm) qZ⟩, fun U hU hW => ⟨rfl, by rw [hU], by rw [hU]; exact hPc, va_K.moved hW.alike hKc, hDc.weaken (fun _ _ _ _ => trivial), by rw [hU]; exact hZ.moved hW.alike⟩⟩ rfl rfl hl.1 rfl (lv_room (Nat.le_of_ble_eq_true rfl)) d_Lw_law_253 ⟨Nat.le_of_ble_eq_true rfl, Nat.le_of_ble_eq_true rfl⟩) hS (fun q _ h => hFc q h) hFc (fun r_1 u t H1 locs ht hvm hw9 hB hz1 hk1 hS => ?_)
  obtain ⟨hP1, hK1, hD1⟩ := hB
  rw [ht] at hP1
  have hK1 := va_K.moved hvm.symm hK1
  obtain ⟨hP, hD⟩ := va_join (wr := [(b1, .inr (2, [.ref g0, .ref g1, .ref g2, .int 0])), (s0, .inr (3, [.ref r0, .ref t0, .ref w0, .ref l0, .ref k0, .ref v0, .ref v1, .ref v2, .int 0, .int 0, .int 0, .int 0])), (t0, .inr (4, [.ref u0, .ref u1, .ref u2, .ref u3, .ref u4, .int 0, .int 0, .int 0, .int 1])), (w0, .inr (5, [.ref r0, .ref t0, .ref y0, .ref y1])), (m0, .inr (7, [.ref j0, .ref j1, .ref j2, .ref j3, .ref j4, .int 0, .int 0, .int 0, .int 0, .int 0, .int 0, .ref j5, .int 0, .ref j6, .ref j7])), (j4, .inl (ca, 401, .inl fw))]) (w1 := [(h0, .inr (6, [.ref b0, .ref b1, .ref s0, .ref b3, .int 0, .int 0, .int 0, .int 0])), (o0, .inl (cl, 1, .inr (.inl fo)))]) hP hD [0, 7] [1, 2, 3, 4, 5, 6] rfl rfl (by decide) (by decide) hk1 hFc hP1 hD1
  generalize H1 = H at hP hS ⊢
  have hP : va_P (dC, dI) vwCl [(b1, .inr (2, [.ref g0, .ref g1, .ref g2, .int 0])), (s0, .inr (3, [.ref r0, .ref t0, .ref w0, .ref l0, .ref k0, .ref v0, .ref v1, .ref v2, .int 0, .int 0, .int 0, .int 0])), (t0, .inr (4, [.ref u0, .ref u1, .ref u2, .ref u3, .ref u4, .int 0, .int 0, .int 0, .int 1])), (w0, .inr (5, [.ref r0, .ref t0, .ref y0, .ref y1])), (m0, .inr (7, [.ref j0, .ref j1, .ref j2, .ref j3, .ref j4, .int 0, .int 0, .int 0, .int 0, .int 0, .int 0, .ref j5, .int 0, .ref j6, .ref j7])), (j4, .inl (ca, 401, .inl fw)), (h0, .inr (6, [.ref b0, .ref b1, .ref s0, .ref b3, .int 0, .int 0, .int 0, .int 0])), (o0, .inl (cl, 1, .inr (.inl fo)))] H := hP
  have hD : va_D (fun q : Nat => s.heap.size ≤ q) [(b1, .inr (2, [.ref g0, .ref g1, .ref g2, .int 0])), (s0, .inr (3, [.ref r0, .ref t0, .ref w0, .ref l0, .ref k0, .ref v0, .ref v1, .ref v2, .int 0, .int 0, .int 0, .int 0])), (t0, .inr (4, [.ref u0, .ref u1, .ref u2, .ref u3, .ref u4, .int 0, .int 0, .int 0, .int 1])), (w0, .inr (5, [.ref r0, .ref t0, .ref y0, .ref y1])), (m0, .inr (7, [.ref j0, .ref j1, .ref j2, .ref j3, .ref j4, .int 0, .int 0, .int 0, .int 0, .int 0, .int 0, .ref j5, .int 0, .ref j6, .ref j7])), (j4, .inl (ca, 401, .inl fw)), (h0, .inr (6, [.ref b0, .ref b1, .ref s0, .ref b3, .int 0, .int 0, .int 0, .int 0])), (o0, .inl (cl, 1, .inr (.inl fo)))] := hD
  refine W.widen (k := 46) (n := 95487) (by decide) (by decide) ?_
  have hw9 : r_1 = 1 := hw9
  subst hw9
  refine lv_istore (lv' := [(5, .int 1), (0, .ref b), (1, .ref h0), (2, .ref m0), (3, .ref o0), (4, .int 0)]) hx hb d_Lw_law_256 hl (by decide) rfl (fun ls hl => ?_)
  refine lv_aload_n hx hb d_Lw_law_258 rfl (lv_at hl 3 rfl) ?_
  refine lv_aload_n hx hb d_Lw_law_259 rfl (lv_at hl 1 rfl) ?_
  refine lv_iload hx hb d_Lw_law_260 (lv_at hl 5 rfl) ?_
  refine lv_iconst (v := 1) hx hb d_Lw_law_262 (by decide) ?_
  refine lv_iadd hx hb d_Lw_law_263 ?_
  refine va_sld hx hb hX hbl hbA hS (by unfold vp_in; decide) d_Lw_law_264 ?_
  have hPc := hP.sub (ws' := [(m0, .inr (7, [.ref j0, .ref j1, .ref j2, .ref j3, .ref j4, .int 0, .int 0, .int 0, .int 0, .int 0, .int 0, .ref j5, .int 0, .ref j6, .ref j7]))]) [4] rfl
  have hDc := hD.sub (ws' := [(m0, .inr (7, [.ref j0, .ref j1, .ref j2, .ref j3, .ref j4, .int 0, .int 0, .int 0, .int 0, .int 0, .int 0, .ref j5, .int 0, .ref j6, .ref j7]))]) [4] (by decide) rfl
  have hKc := hK.sub (tys' := []) [] rfl
  have hFc := va_free (wc := [(m0, .inr (7, [.ref j0, .ref j1, .ref j2, .ref j3, .ref j4, .int 0, .int 0, .int 0, .int 0, .int 0, .int 0, .ref j5, .int 0, .ref j6, .ref j7]))]) hD hS hA [4] rfl
  refine va_calli (va_runV (As := [.int (xs (0 + 1 : Int32).toNatClampNeg)]) (rest := []) ⟨hx, hb, hml, hown, hw⟩ (c_Md_value_1 l dC dI m0 j0 j1 j2 j3 j4 j5 j6 j7 H.size 0 0 0 0 0 0 0 (xs (0 + 1 : Int32).toNatClampNeg) (one_z _)) (cb_V (C := R_Md) 1 hw k_701 k_37 k_698 k_699 k_700 rfl rfl (by decide +kernel) ⟨Nat.le_of_ble_eq_true rfl, Nat.le_of_ble_eq_true rfl⟩) ⟨fun a U g mk q => by obtain ⟨q0, q1, qP, qK, qD⟩ := q; exact ⟨q0, q1, qP, va_K.moved (u := U) (U := U.calling g mk a) (Vm.Alike.refl U.vm) qK, qD⟩, va_recv hKc hPc (ci := 7) (q0 := 0) rfl rfl, fun U hU hW => ⟨rfl, by rw [hU], by rw [hU]; exact hPc, va_K.moved hW.alike hKc, hDc.weaken (fun _ _ _ _ => trivial)⟩⟩ rfl rfl hl.1 rfl (lv_room (Nat.le_of_ble_eq_true rfl)) d_Lw_law_265 ⟨Nat.le_of_ble_eq_true rfl, Nat.le_of_ble_eq_true rfl⟩) hS (fun q _ h => hFc q h) hFc (fun r_2 u t H1 locs ht hvm hw9 hB hz1 hk1 hS => ?_)
  obtain ⟨hP1, hK1, hD1⟩ := hB
  rw [ht] at hP1
  have hK1 := va_K.moved hvm.symm hK1
  obtain ⟨hP, hD⟩ := va_join (wr := [(b1, .inr (2, [.ref g0, .ref g1, .ref g2, .int 0])), (s0, .inr (3, [.ref r0, .ref t0, .ref w0, .ref l0, .ref k0, .ref v0, .ref v1, .ref v2, .int 0, .int 0, .int 0, .int 0])), (t0, .inr (4, [.ref u0, .ref u1, .ref u2, .ref u3, .ref u4, .int 0, .int 0, .int 0, .int 1])), (w0, .inr (5, [.ref r0, .ref t0, .ref y0, .ref y1])), (j4, .inl (ca, 401, .inl fw)), (h0, .inr (6, [.ref b0, .ref b1, .ref s0, .ref b3, .int 0, .int 0, .int 0, .int 0])), (o0, .inl (cl, 1, .inr (.inl fo)))]) (w1 := [(m0, .inr (7, [.ref j0, .ref j1, .ref j2, .ref j3, .ref j4, .int 0, .int 0, .int 0, .int 0, .int 0, .int 1, .ref j5, .int 0, .ref j6, .ref j7]))]) hP hD [4] [0, 1, 2, 3, 5, 6, 7] rfl rfl (by decide) (by decide) hk1 hFc hP1 hD1
  generalize H1 = H at hP hS ⊢
  have hP : va_P (dC, dI) vwCl [(b1, .inr (2, [.ref g0, .ref g1, .ref g2, .int 0])), (s0, .inr (3, [.ref r0, .ref t0, .ref w0, .ref l0, .ref k0, .ref v0, .ref v1, .ref v2, .int 0, .int 0, .int 0, .int 0])), (t0, .inr (4, [.ref u0, .ref u1, .ref u2, .ref u3, .ref u4, .int 0, .int 0, .int 0, .int 1])), (w0, .inr (5, [.ref r0, .ref t0, .ref y0, .ref y1])), (j4, .inl (ca, 401, .inl fw)), (h0, .inr (6, [.ref b0, .ref b1, .ref s0, .ref b3, .int 0, .int 0, .int 0, .int 0])), (o0, .inl (cl, 1, .inr (.inl fo))), (m0, .inr (7, [.ref j0, .ref j1, .ref j2, .ref j3, .ref j4, .int 0, .int 0, .int 0, .int 0, .int 0, .int 1, .ref j5, .int 0, .ref j6, .ref j7]))] H := hP
  have hD : va_D (fun q : Nat => s.heap.size ≤ q) [(b1, .inr (2, [.ref g0, .ref g1, .ref g2, .int 0])), (s0, .inr (3, [.ref r0, .ref t0, .ref w0, .ref l0, .ref k0, .ref v0, .ref v1, .ref v2, .int 0, .int 0, .int 0, .int 0])), (t0, .inr (4, [.ref u0, .ref u1, .ref u2, .ref u3, .ref u4, .int 0, .int 0, .int 0, .int 1])), (w0, .inr (5, [.ref r0, .ref t0, .ref y0, .ref y1])), (j4, .inl (ca, 401, .inl fw)), (h0, .inr (6, [.ref b0, .ref b1, .ref s0, .ref b3, .int 0, .int 0, .int 0, .int 0])), (o0, .inl (cl, 1, .inr (.inl fo))), (m0, .inr (7, [.ref j0, .ref j1, .ref j2, .ref j3, .ref j4, .int 0, .int 0, .int 0, .int 0, .int 0, .int 1, .ref j5, .int 0, .ref j6, .ref j7]))] := hD
  refine W.widen (k := 46) (n := 95487) (by decide) (by decide) ?_
  have hw9 : r_2 = 0 := hw9
  subst hw9
  refine lv_istore (lv' := [(6, .int 0), (5, .int 1), (0, .ref b), (1, .ref h0), (2, .ref m0), (3, .ref o0), (4, .int 0)]) hx hb d_Lw_law_268 hl (by decide) rfl (fun ls hl => ?_)
  refine lv_aload_n hx hb d_Lw_law_270 rfl (lv_at hl 4 rfl) ?_
  have hPc := hP.sub (ws' := [(m0, .inr (7, [.ref j0, .ref j1, .ref j2, .ref j3, .ref j4, .int 0, .int 0, .int 0, .int 0, .int 0, .int 1, .ref j5, .int 0, .ref j6, .ref j7]))]) [7] rfl
  have hDc := hD.sub (ws' := [(m0, .inr (7, [.ref j0, .ref j1, .ref j2, .ref j3, .ref j4, .int 0, .int 0, .int 0, .int 0, .int 0, .int 1, .ref j5, .int 0, .ref j6, .ref j7]))]) [7] (by decide) rfl
  have hKc := hK.sub (tys' := []) [] rfl
  have hFc := va_free (wc := [(m0, .inr (7, [.ref j0, .ref j1, .ref j2, .ref j3, .ref j4, .int 0, .int 0, .int 0, .int 0, .int 0, .int 1, .ref j5, .int 0, .ref j6, .ref j7]))]) hD hS hA [7] rfl
  refine va_calli (va_runV (As := []) (rest := []) ⟨hx, hb, hml, hown, hw⟩ (c_Md_thrown l dC dI m0 j0 j1 j2 j3 j4 j5 j6 j7 H.size 0 0 0 0 0 1 0) (cb_V (C := R_Md) 0 hw k_653 k_37 k_650 k_651 k_652 rfl rfl (by decide +kernel) ⟨Nat.le_of_ble_eq_true rfl, Nat.le_of_ble_eq_true rfl⟩) ⟨fun a U g mk q => by obtain ⟨q0, q1, qP, qK, qD⟩ := q; exact ⟨q0, q1, qP, va_K.moved (u := U) (U := U.calling g mk a) (Vm.Alike.refl U.vm) qK, qD⟩, va_recv hKc hPc (ci := 7) (q0 := 0) rfl rfl, fun U hU hW => ⟨rfl, by rw [hU], by rw [hU]; exact hPc, va_K.moved hW.alike hKc, hDc.weaken (fun _ _ _ _ => trivial)⟩⟩ rfl rfl hl.1 rfl (lv_room (Nat.le_of_ble_eq_true rfl)) d_Lw_law_271 ⟨Nat.le_of_ble_eq_true rfl, Nat.le_of_ble_eq_true rfl⟩) hS (fun q _ h => hFc q h) hFc (fun r_3 u t H1 locs ht hvm hw9 hB hz1 hk1 hS => ?_)
  obtain ⟨hP1, hK1, hD1⟩ := hB
  rw [ht] at hP1
  have hK1 := va_K.moved hvm.symm hK1
  obtain ⟨hP, hD⟩ := va_join (wr := [(b1, .inr (2, [.ref g0, .ref g1, .ref g2, .int 0])), (s0, .inr (3, [.ref r0, .ref t0, .ref w0, .ref l0, .ref k0, .ref v0, .ref v1, .ref v2, .int 0, .int 0, .int 0, .int 0])), (t0, .inr (4, [.ref u0, .ref u1, .ref u2, .ref u3, .ref u4, .int 0, .int 0, .int 0, .int 1])), (w0, .inr (5, [.ref r0, .ref t0, .ref y0, .ref y1])), (j4, .inl (ca, 401, .inl fw)), (h0, .inr (6, [.ref b0, .ref b1, .ref s0, .ref b3, .int 0, .int 0, .int 0, .int 0])), (o0, .inl (cl, 1, .inr (.inl fo)))]) (w1 := [(m0, .inr (7, [.ref j0, .ref j1, .ref j2, .ref j3, .ref j4, .int 0, .int 0, .int 0, .int 0, .int 0, .int 1, .ref j5, .int 0, .ref j6, .ref j7]))]) hP hD [7] [0, 1, 2, 3, 4, 5, 6] rfl rfl (by decide) (by decide) hk1 hFc hP1 hD1
  generalize H1 = H at hP hS ⊢
  have hP : va_P (dC, dI) vwCl [(b1, .inr (2, [.ref g0, .ref g1, .ref g2, .int 0])), (s0, .inr (3, [.ref r0, .ref t0, .ref w0, .ref l0, .ref k0, .ref v0, .ref v1, .ref v2, .int 0, .int 0, .int 0, .int 0])), (t0, .inr (4, [.ref u0, .ref u1, .ref u2, .ref u3, .ref u4, .int 0, .int 0, .int 0, .int 1])), (w0, .inr (5, [.ref r0, .ref t0, .ref y0, .ref y1])), (j4, .inl (ca, 401, .inl fw)), (h0, .inr (6, [.ref b0, .ref b1, .ref s0, .ref b3, .int 0, .int 0, .int 0, .int 0])), (o0, .inl (cl, 1, .inr (.inl fo))), (m0, .inr (7, [.ref j0, .ref j1, .ref j2, .ref j3, .ref j4, .int 0, .int 0, .int 0, .int 0, .int 0, .int 1, .ref j5, .int 0, .ref j6, .ref j7]))] H := hP
  have hD : va_D (fun q : Nat => s.heap.size ≤ q) [(b1, .inr (2, [.ref g0, .ref g1, .ref g2, .int 0])), (s0, .inr (3, [.ref r0, .ref t0, .ref w0, .ref l0, .ref k0, .ref v0, .ref v1, .ref v2, .int 0, .int 0, .int 0, .int 0])), (t0, .inr (4, [.ref u0, .ref u1, .ref u2, .ref u3, .ref u4, .int 0, .int 0, .int 0, .int 1])), (w0, .inr (5, [.ref r0, .ref t0, .ref y0, .ref y1])), (j4, .inl (ca, 401, .inl fw)), (h0, .inr (6, [.ref b0, .ref b1, .ref s0, .ref b3, .int 0, .int 0, .int 0, .int 0])), (o0, .inl (cl, 1, .inr (.inl fo))), (m0, .inr (7, [.ref j0, .ref j1, .ref j2, .ref j3, .ref j4, .int 0, .int 0, .int 0, .int 0, .int 0, .int 1, .ref j5, .int 0, .ref j6, .ref j7]))] := hD
  refine W.widen (k := 46) (n := 95487) (by decide) (by decide) ?_
  have hw9 : r_3 = 1 := hw9
  subst hw9
  refine lv_iload hx hb d_Lw_law_274 (lv_at hl 1 rfl) ?_
  refine lv_icmp_eq (tgt := 281) hx hb d_Lw_law_276 (by decide) (fun c_276 => ?_) (fun c_276 => absurd c_276 (by decide))
  refine lv_iload hx hb d_Lw_law_281 (lv_at hl 1 rfl) ?_
  refine lv_if_ne (tgt := 305) hx hb d_Lw_law_283 (by decide) (fun c_283 => ?_) (fun c_283 => absurd c_283 (by decide))
  refine lv_goto (tgt := 364) hx hb d_Lw_law_305 (by decide) ?_
  obtain ⟨v_4, ev_4⟩ : ∃ y : Int32, y = 0 + 2 := ⟨_, rfl⟩
  refine lv_iinc (v := v_4) (lv' := [(4, .int v_4), (6, .int 0), (5, .int 1), (0, .ref b), (1, .ref h0), (2, .ref m0), (3, .ref o0)]) hx hb d_Lw_law_364 hl (k := 6) rfl (by rw [ev_4]; rfl) (by decide) rfl (fun ls hl => ?_)
  refine lv_goto (tgt := 23) hx hb d_Lw_law_367 (by decide) ?_
  exact lw_exit C1 (by decide) (by decide) _ _ ls v_4 (by rw [ev_4]; decide) hS (lv_sub hl [3, 0] rfl)
end
section
theorem k_589 : (Cond.methodLink "ClauseSearchLaw" 61 ⟨"ClauseSearchLaw", "count", "(LClauseSearch;I[J)I"⟩) ∈ bg_W := bg_in 589 (by decide +kernel) (by decide +kernel)
theorem k_590 : (Cond.static ⟨"ClauseSearchLaw", "count", "(LClauseSearch;I[J)I"⟩) ∈ bg_W := bg_in 590 (by decide +kernel) (by decide +kernel)
theorem k_591 : (Cond.codeWith ⟨"ClauseSearchLaw", "count", "(LClauseSearch;I[J)I"⟩ method_7_code 4 (some .int) [(0, 9, 12, 13)]) ∈ bg_W := bg_in 591 (by decide +kernel) (by decide +kernel)
theorem k_702 : (Cond.methodLink "ClauseSearchLaw" 63 ⟨"ClauseSearchModel", "count", "(I)I"⟩) ∈ bg_W := bg_in 702 (by decide +kernel) (by decide +kernel)
theorem k_703 : (Cond.instanceMethod ⟨"ClauseSearchModel", "count", "(I)I"⟩) ∈ bg_W := bg_in 703 (by decide +kernel) (by decide +kernel)
theorem k_704 : (Cond.selects "ClauseSearchModel" ⟨"ClauseSearchModel", "count", "(I)I"⟩ ⟨"ClauseSearchModel", "count", "(I)I"⟩) ∈ bg_W := bg_in 704 (by decide +kernel) (by decide +kernel)
theorem k_705 : (Cond.code ⟨"ClauseSearchModel", "count", "(I)I"⟩ prog_9_method_15_code 2 (some .int)) ∈ bg_W := bg_in 705 (by decide +kernel) (by decide +kernel)
theorem d_Lw_law_308 : decode code 308 = .ok (.aload_n 1, 1) := by decide +kernel
theorem d_Lw_law_309 : decode code 309 = .ok (.aload_n 0, 1) := by decide +kernel
theorem d_Lw_law_310 : decode code 310 = .ok (.iload 4, 2) := by decide +kernel
theorem d_Lw_law_312 : decode code 312 = .ok (.iconst 1, 1) := by decide +kernel
theorem d_Lw_law_313 : decode code 313 = .ok (.iadd, 1) := by decide +kernel
theorem d_Lw_law_314 : decode code 314 = .ok (.iaload, 1) := by decide +kernel
theorem d_Lw_law_315 : decode code 315 = .ok (.aload_n 3, 1) := by decide +kernel
theorem d_Lw_law_316 : decode code 316 = .ok (.invokestatic 61, 3) := by decide +kernel
theorem d_Lw_law_319 : decode code 319 = .ok (.istore 5, 2) := by decide +kernel
theorem d_Lw_law_321 : decode code 321 = .ok (.aload_n 2, 1) := by decide +kernel
theorem d_Lw_law_322 : decode code 322 = .ok (.aload_n 0, 1) := by decide +kernel
theorem d_Lw_law_323 : decode code 323 = .ok (.iload 4, 2) := by decide +kernel
theorem d_Lw_law_325 : decode code 325 = .ok (.iconst 1, 1) := by decide +kernel
theorem d_Lw_law_326 : decode code 326 = .ok (.iadd, 1) := by decide +kernel
theorem d_Lw_law_327 : decode code 327 = .ok (.iaload, 1) := by decide +kernel
theorem d_Lw_law_328 : decode code 328 = .ok (.invokevirtual 63, 3) := by decide +kernel
theorem d_Lw_law_331 : decode code 331 = .ok (.istore 6, 2) := by decide +kernel
theorem d_Lw_law_333 : decode code 333 = .ok (.aload_n 2, 1) := by decide +kernel
theorem d_Lw_law_334 : decode code 334 = .ok (.invokevirtual 43, 3) := by decide +kernel
theorem d_Lw_law_337 : decode code 337 = .ok (.iload 5, 2) := by decide +kernel
theorem d_Lw_law_339 : decode code 339 = .ok (.if_icmp .eq 5, 3) := by decide +kernel
theorem d_Lw_law_344 : decode code 344 = .ok (.iload 5, 2) := by decide +kernel
theorem d_Lw_law_346 : decode code 346 = .ok (.ifCond .ne 15, 3) := by decide +kernel
theorem d_Lw_law_361 : decode code 361 = .ok (.goto 3, 3) := by decide +kernel
theorem d_Lw_law_349 : decode code 349 = .ok (.aload_n 3, 1) := by decide +kernel
theorem d_Lw_law_350 : decode code 350 = .ok (.iconst 0, 1) := by decide +kernel
theorem d_Lw_law_351 : decode code 351 = .ok (.laload, 1) := by decide +kernel
theorem d_Lw_law_352 : decode code 352 = .ok (.iload 6, 2) := by decide +kernel
theorem d_Lw_law_354 : decode code 354 = .ok (.i2l, 1) := by decide +kernel
theorem d_Lw_law_355 : decode code 355 = .ok (.lcmp, 1) := by decide +kernel
theorem d_Lw_law_356 : decode code 356 = .ok (.ifCond .eq 5, 3) := by decide +kernel
set_option maxHeartbeats 4000000 in
set_option maxRecDepth 100000 in
/-- case 5 -/
theorem lw_c5 {p : Program} {l : Launch} {e : Env} {s : State} {m : MethodId} {below : List Frame} {meth : Method} {c : Code} {dC : Nat → ClassId} {dI : Nat → Nat → Nat} {b : Nat} {xs : Nat → Int32} (hfl : l.flags = pinnedFlags ++ [noTraceFlag]) (C1 : lw_At p s m meth c b 2 xs) (hZ0 : tw_Z s s.heap s.heap.size) (h0 b0 b1 s0 b3 g0 g1 g2 r0 t0 w0 l0 k0 v0 v1 v2 u0 u1 u2 u3 u4 y0 y1 m0 j0 j1 j2 j3 j4 j5 j6 j7 o0 : Nat) (ca cl : ClassId) (fw : Nat → Int32) (fo : Nat → Int64) (H : Heap) (locs : List Loc) (ls : Array Slot) (hK : va_K (dC, dI) vwCl [(ca, .int), (cl, .long)] s) (hP : va_P (dC, dI) vwCl [(h0, .inr (6, [.ref b0, .ref b1, .ref s0, .ref b3, .int 0, .int 0, .int 0, .int 0])), (b1, .inr (2, [.ref g0, .ref g1, .ref g2, .int 0])), (s0, .inr (3, [.ref r0, .ref t0, .ref w0, .ref l0, .ref k0, .ref v0, .ref v1, .ref v2, .int 0, .int 0, .int 0, .int 0])), (t0, .inr (4, [.ref u0, .ref u1, .ref u2, .ref u3, .ref u4, .int 0, .int 0, .int 0, .int 1])), (w0, .inr (5, [.ref r0, .ref t0, .ref y0, .ref y1])), (m0, .inr (7, [.ref j0, .ref j1, .ref j2, .ref j3, .ref j4, .int 0, .int 0, .int 0, .int 0, .int 0, .int 0, .ref j5, .int 0, .ref j6, .ref j7])), (j4, .inl (ca, 401, .inl fw)), (o0, .inl (cl, 1, .inr (.inl fo)))] H) (hD : va_D (fun q : Nat => s.heap.size ≤ q) [(h0, .inr (6, [.ref b0, .ref b1, .ref s0, .ref b3, .int 0, .int 0, .int 0, .int 0])), (b1, .inr (2, [.ref g0, .ref g1, .ref g2, .int 0])), (s0, .inr (3, [.ref r0, .ref t0, .ref w0, .ref l0, .ref k0, .ref v0, .ref v1, .ref v2, .int 0, .int 0, .int 0, .int 0])), (t0, .inr (4, [.ref u0, .ref u1, .ref u2, .ref u3, .ref u4, .int 0, .int 0, .int 0, .int 1])), (w0, .inr (5, [.ref r0, .ref t0, .ref y0, .ref y1])), (m0, .inr (7, [.ref j0, .ref j1, .ref j2, .ref j3, .ref j4, .int 0, .int 0, .int 0, .int 0, .int 0, .int 0, .ref j5, .int 0, .ref j6, .ref j7])), (j4, .inl (ca, 401, .inl fw)), (o0, .inl (cl, 1, .inr (.inl fo)))]) (hS : va_S (fun q : Nat => s.heap.size ≤ q) s.heap H locs) (hl : lv_has ls 7 [(0, .ref b), (1, .ref h0), (2, .ref m0), (3, .ref o0), (4, .int 0)]) : W p l e room_1 s m #[Value.ref b] below meth c H locs 45 95481 (lw_Z below #[Value.ref b] s) (F0 m 308 ls []) := by
  obtain ⟨hx, hb, hr, hml, hown, hts, hX, hbl, hlocks, hgv⟩ := id C1
  have hw : ∀ w ∈ bg_W, w.before #[Value.ref b] s = true := fun w h => hts w (bg_sub w h)
  have hown : s.vm.findClass R_Lw = some m.cls := hown
  have hA : ∀ q : Nat, s.heap.size ≤ q → (fun q : Nat => s.heap.size ≤ q) q := fun _ h => h
  have hbA : ¬ (fun q : Nat => s.heap.size ≤ q) b := Nat.not_le.mpr hbl
  by_cases hc : (xs ((0 + 1) : Int32).toNatClampNeg).toInt < 0 ∨ 5 < (xs ((0 + 1) : Int32).toNatClampNeg).toInt
  · refine lv_aload_n hx hb d_Lw_law_308 rfl (lv_at hl 1 rfl) ?_
    refine lv_aload_n hx hb d_Lw_law_309 rfl (lv_at hl 0 rfl) ?_
    refine lv_iload hx hb d_Lw_law_310 (lv_at hl 4 rfl) ?_
    refine lv_iconst (v := 1) hx hb d_Lw_law_312 (by decide) ?_
    refine lv_iadd hx hb d_Lw_law_313 ?_
    refine va_sld hx hb hX hbl hbA hS (by unfold vp_in; decide) d_Lw_law_314 ?_
    refine lv_aload_n hx hb d_Lw_law_315 rfl (lv_at hl 3 rfl) ?_
    have hZ : tw_Z s H s.heap.size := hZ0.kept (fun a ha => hS.2.1 a ha (Nat.not_le.mpr ha))
    have hPc := hP.sub (ws' := [(h0, .inr (6, [.ref b0, .ref b1, .ref s0, .ref b3, .int 0, .int 0, .int 0, .int 0])), (o0, .inl (cl, 1, .inr (.inl fo)))]) [0, 7] rfl
    have hDc := hD.sub (ws' := [(h0, .inr (6, [.ref b0, .ref b1, .ref s0, .ref b3, .int 0, .int 0, .int 0, .int 0])), (o0, .inl (cl, 1, .inr (.inl fo)))]) [0, 7] (by decide) rfl
    have hKc := hK.sub (tys' := [(cl, .long)]) [1] rfl
    have hFc := va_free (wc := [(h0, .inr (6, [.ref b0, .ref b1, .ref s0, .ref b3, .int 0, .int 0, .int 0, .int 0])), (o0, .inl (cl, 1, .inr (.inl fo)))]) hD hS hA [0, 7] rfl
    refine va_calli (th_runS (n := 3) (As := [.ref h0, .int (xs (0 + 1 : Int32).toNatClampNeg), .ref o0]) (rest := []) ⟨hx, hb, hml, hown, hw⟩ (c_Lw_count_1 l hfl dC dI h0 b0 b1 s0 b3 o0 cl H.size s.heap.size 0 0 0 0 (xs (0 + 1 : Int32).toNatClampNeg) fo hc) k_591 k_28 k_589 k_590 rfl rfl (by decide +kernel) ⟨Nat.le_of_ble_eq_true rfl, Nat.le_of_ble_eq_true rfl⟩ ⟨fun a U g mk q => by obtain ⟨q0, q1, qP, qK, qD, qZ⟩ := q; exact ⟨q0, q1, qP, va_K.moved (u := U) (U := U.calling g mk a) (Vm.Alike.refl U.vm) qK, qD, tw_Z.moved (u := U) (U := U.calling g mk a) (Vm.Alike.refl U.vm) qZ⟩, fun U hU hW => ⟨rfl, by rw [hU], by rw [hU]; exact hPc, va_K.moved hW.alike hKc, hDc.weaken (fun _ _ _ _ => trivial), by rw [hU]; exact hZ.moved hW.alike⟩⟩ rfl rfl hl.1 rfl (lv_room (Nat.le_of_ble_eq_true rfl)) d_Lw_law_316 ⟨Nat.le_of_ble_eq_true rfl, Nat.le_of_ble_eq_true rfl⟩) hS (fun q _ h => hFc q h) hFc (fun r_1 u t H1 locs ht hvm hw9 hB hz1 hk1 hS => ?_)
    obtain ⟨hP1, hK1, hD1⟩ := hB
    rw [ht] at hP1
    have hK1 := va_K.moved hvm.symm hK1
    obtain ⟨hP, hD⟩ := va_join (wr := [(b1, .inr (2, [.ref g0, .ref g1, .ref g2, .int 0])), (s0, .inr (3, [.ref r0, .ref t0, .ref w0, .ref l0, .ref k0, .ref v0, .ref v1, .ref v2, .int 0, .int 0, .int 0, .int 0])), (t0, .inr (4, [.ref u0, .ref u1, .ref u2, .ref u3, .ref u4, .int 0, .int 0, .int 0, .int 1])), (w0, .inr (5, [.ref r0, .ref t0, .ref y0, .ref y1])), (m0, .inr (7, [.ref j0, .ref j1, .ref j2, .ref j3, .ref j4, .int 0, .int 0, .int 0, .int 0, .int 0, .int 0, .ref j5, .int 0, .ref j6, .ref j7])), (j4, .inl (ca, 401, .inl fw))]) (w1 := [(h0, .inr (6, [.ref b0, .ref b1, .ref s0, .ref b3, .int 0, .int 0, .int 0, .int 0])), (o0, .inl (cl, 1, .inr (.inl fo)))]) hP hD [0, 7] [1, 2, 3, 4, 5, 6] rfl rfl (by decide) (by decide) hk1 hFc hP1 hD1
    generalize H1 = H at hP hS ⊢
    have hP : va_P (dC, dI) vwCl [(b1, .inr (2, [.ref g0, .ref g1, .ref g2, .int 0])), (s0, .inr (3, [.ref r0, .ref t0, .ref w0, .ref l0, .ref k0, .ref v0, .ref v1, .ref v2, .int 0, .int 0, .int 0, .int 0])), (t0, .inr (4, [.ref u0, .ref u1, .ref u2, .ref u3, .ref u4, .int 0, .int 0, .int 0, .int 1])), (w0, .inr (5, [.ref r0, .ref t0, .ref y0, .ref y1])), (m0, .inr (7, [.ref j0, .ref j1, .ref j2, .ref j3, .ref j4, .int 0, .int 0, .int 0, .int 0, .int 0, .int 0, .ref j5, .int 0, .ref j6, .ref j7])), (j4, .inl (ca, 401, .inl fw)), (h0, .inr (6, [.ref b0, .ref b1, .ref s0, .ref b3, .int 0, .int 0, .int 0, .int 0])), (o0, .inl (cl, 1, .inr (.inl fo)))] H := hP
    have hD : va_D (fun q : Nat => s.heap.size ≤ q) [(b1, .inr (2, [.ref g0, .ref g1, .ref g2, .int 0])), (s0, .inr (3, [.ref r0, .ref t0, .ref w0, .ref l0, .ref k0, .ref v0, .ref v1, .ref v2, .int 0, .int 0, .int 0, .int 0])), (t0, .inr (4, [.ref u0, .ref u1, .ref u2, .ref u3, .ref u4, .int 0, .int 0, .int 0, .int 1])), (w0, .inr (5, [.ref r0, .ref t0, .ref y0, .ref y1])), (m0, .inr (7, [.ref j0, .ref j1, .ref j2, .ref j3, .ref j4, .int 0, .int 0, .int 0, .int 0, .int 0, .int 0, .ref j5, .int 0, .ref j6, .ref j7])), (j4, .inl (ca, 401, .inl fw)), (h0, .inr (6, [.ref b0, .ref b1, .ref s0, .ref b3, .int 0, .int 0, .int 0, .int 0])), (o0, .inl (cl, 1, .inr (.inl fo)))] := hD
    refine W.widen (k := 46) (n := 95487) (by decide) (by decide) ?_
    have hw9 : r_1 = 1 := hw9
    subst hw9
    refine lv_istore (lv' := [(5, .int 1), (0, .ref b), (1, .ref h0), (2, .ref m0), (3, .ref o0), (4, .int 0)]) hx hb d_Lw_law_319 hl (by decide) rfl (fun ls hl => ?_)
    refine lv_aload_n hx hb d_Lw_law_321 rfl (lv_at hl 3 rfl) ?_
    refine lv_aload_n hx hb d_Lw_law_322 rfl (lv_at hl 1 rfl) ?_
    refine lv_iload hx hb d_Lw_law_323 (lv_at hl 5 rfl) ?_
    refine lv_iconst (v := 1) hx hb d_Lw_law_325 (by decide) ?_
    refine lv_iadd hx hb d_Lw_law_326 ?_
    refine va_sld hx hb hX hbl hbA hS (by unfold vp_in; decide) d_Lw_law_327 ?_
    have hPc := hP.sub (ws' := [(m0, .inr (7, [.ref j0, .ref j1, .ref j2, .ref j3, .ref j4, .int 0, .int 0, .int 0, .int 0, .int 0, .int 0, .ref j5, .int 0, .ref j6, .ref j7]))]) [4] rfl
    have hDc := hD.sub (ws' := [(m0, .inr (7, [.ref j0, .ref j1, .ref j2, .ref j3, .ref j4, .int 0, .int 0, .int 0, .int 0, .int 0, .int 0, .ref j5, .int 0, .ref j6, .ref j7]))]) [4] (by decide) rfl
    have hKc := hK.sub (tys' := []) [] rfl
    have hFc := va_free (wc := [(m0, .inr (7, [.ref j0, .ref j1, .ref j2, .ref j3, .ref j4, .int 0, .int 0, .int 0, .int 0, .int 0, .int 0, .ref j5, .int 0, .ref j6, .ref j7]))]) hD hS hA [4] rfl
    refine va_calli (va_runV (As := [.int (xs (0 + 1 : Int32).toNatClampNeg)]) (rest := []) ⟨hx, hb, hml, hown, hw⟩ (c_Md_count_1 l dC dI m0 j0 j1 j2 j3 j4 j5 j6 j7 H.size 0 0 0 0 0 0 0 (xs (0 + 1 : Int32).toNatClampNeg) (by rcases hc with h | h; exact Or.inl (Int32.lt_iff_toInt_lt.mpr h); exact Or.inr (Int32.lt_iff_toInt_lt.mpr h))) (cb_V (C := R_Md) 1 hw k_705 k_37 k_702 k_703 k_704 rfl rfl (by decide +kernel) ⟨Nat.le_of_ble_eq_true rfl, Nat.le_of_ble_eq_true rfl⟩) ⟨fun a U g mk q => by obtain ⟨q0, q1, qP, qK, qD⟩ := q; exact ⟨q0, q1, qP, va_K.moved (u := U) (U := U.calling g mk a) (Vm.Alike.refl U.vm) qK, qD⟩, va_recv hKc hPc (ci := 7) (q0 := 0) rfl rfl, fun U hU hW => ⟨rfl, by rw [hU], by rw [hU]; exact hPc, va_K.moved hW.alike hKc, hDc.weaken (fun _ _ _ _ => trivial)⟩⟩ rfl rfl hl.1 rfl (lv_room (Nat.le_of_ble_eq_true rfl)) d_Lw_law_328 ⟨Nat.le_of_ble_eq_true rfl, Nat.le_of_ble_eq_true rfl⟩) hS (fun q _ h => hFc q h) hFc (fun r_2 u t H1 locs ht hvm hw9 hB hz1 hk1 hS => ?_)
    obtain ⟨hP1, hK1, hD1⟩ := hB
    rw [ht] at hP1
    have hK1 := va_K.moved hvm.symm hK1
    obtain ⟨hP, hD⟩ := va_join (wr := [(b1, .inr (2, [.ref g0, .ref g1, .ref g2, .int 0])), (s0, .inr (3, [.ref r0, .ref t0, .ref w0, .ref l0, .ref k0, .ref v0, .ref v1, .ref v2, .int 0, .int 0, .int 0, .int 0])), (t0, .inr (4, [.ref u0, .ref u1, .ref u2, .ref u3, .ref u4, .int 0, .int 0, .int 0, .int 1])), (w0, .inr (5, [.ref r0, .ref t0, .ref y0, .ref y1])), (j4, .inl (ca, 401, .inl fw)), (h0, .inr (6, [.ref b0, .ref b1, .ref s0, .ref b3, .int 0, .int 0, .int 0, .int 0])), (o0, .inl (cl, 1, .inr (.inl fo)))]) (w1 := [(m0, .inr (7, [.ref j0, .ref j1, .ref j2, .ref j3, .ref j4, .int 0, .int 0, .int 0, .int 0, .int 0, .int 1, .ref j5, .int 0, .ref j6, .ref j7]))]) hP hD [4] [0, 1, 2, 3, 5, 6, 7] rfl rfl (by decide) (by decide) hk1 hFc hP1 hD1
    generalize H1 = H at hP hS ⊢
    have hP : va_P (dC, dI) vwCl [(b1, .inr (2, [.ref g0, .ref g1, .ref g2, .int 0])), (s0, .inr (3, [.ref r0, .ref t0, .ref w0, .ref l0, .ref k0, .ref v0, .ref v1, .ref v2, .int 0, .int 0, .int 0, .int 0])), (t0, .inr (4, [.ref u0, .ref u1, .ref u2, .ref u3, .ref u4, .int 0, .int 0, .int 0, .int 1])), (w0, .inr (5, [.ref r0, .ref t0, .ref y0, .ref y1])), (j4, .inl (ca, 401, .inl fw)), (h0, .inr (6, [.ref b0, .ref b1, .ref s0, .ref b3, .int 0, .int 0, .int 0, .int 0])), (o0, .inl (cl, 1, .inr (.inl fo))), (m0, .inr (7, [.ref j0, .ref j1, .ref j2, .ref j3, .ref j4, .int 0, .int 0, .int 0, .int 0, .int 0, .int 1, .ref j5, .int 0, .ref j6, .ref j7]))] H := hP
    have hD : va_D (fun q : Nat => s.heap.size ≤ q) [(b1, .inr (2, [.ref g0, .ref g1, .ref g2, .int 0])), (s0, .inr (3, [.ref r0, .ref t0, .ref w0, .ref l0, .ref k0, .ref v0, .ref v1, .ref v2, .int 0, .int 0, .int 0, .int 0])), (t0, .inr (4, [.ref u0, .ref u1, .ref u2, .ref u3, .ref u4, .int 0, .int 0, .int 0, .int 1])), (w0, .inr (5, [.ref r0, .ref t0, .ref y0, .ref y1])), (j4, .inl (ca, 401, .inl fw)), (h0, .inr (6, [.ref b0, .ref b1, .ref s0, .ref b3, .int 0, .int 0, .int 0, .int 0])), (o0, .inl (cl, 1, .inr (.inl fo))), (m0, .inr (7, [.ref j0, .ref j1, .ref j2, .ref j3, .ref j4, .int 0, .int 0, .int 0, .int 0, .int 0, .int 1, .ref j5, .int 0, .ref j6, .ref j7]))] := hD
    refine W.widen (k := 46) (n := 95487) (by decide) (by decide) ?_
    have hw9 : r_2 = 0 := hw9
    subst hw9
    refine lv_istore (lv' := [(6, .int 0), (5, .int 1), (0, .ref b), (1, .ref h0), (2, .ref m0), (3, .ref o0), (4, .int 0)]) hx hb d_Lw_law_331 hl (by decide) rfl (fun ls hl => ?_)
    refine lv_aload_n hx hb d_Lw_law_333 rfl (lv_at hl 4 rfl) ?_
    have hPc := hP.sub (ws' := [(m0, .inr (7, [.ref j0, .ref j1, .ref j2, .ref j3, .ref j4, .int 0, .int 0, .int 0, .int 0, .int 0, .int 1, .ref j5, .int 0, .ref j6, .ref j7]))]) [7] rfl
    have hDc := hD.sub (ws' := [(m0, .inr (7, [.ref j0, .ref j1, .ref j2, .ref j3, .ref j4, .int 0, .int 0, .int 0, .int 0, .int 0, .int 1, .ref j5, .int 0, .ref j6, .ref j7]))]) [7] (by decide) rfl
    have hKc := hK.sub (tys' := []) [] rfl
    have hFc := va_free (wc := [(m0, .inr (7, [.ref j0, .ref j1, .ref j2, .ref j3, .ref j4, .int 0, .int 0, .int 0, .int 0, .int 0, .int 1, .ref j5, .int 0, .ref j6, .ref j7]))]) hD hS hA [7] rfl
    refine va_calli (va_runV (As := []) (rest := []) ⟨hx, hb, hml, hown, hw⟩ (c_Md_thrown l dC dI m0 j0 j1 j2 j3 j4 j5 j6 j7 H.size 0 0 0 0 0 1 0) (cb_V (C := R_Md) 0 hw k_653 k_37 k_650 k_651 k_652 rfl rfl (by decide +kernel) ⟨Nat.le_of_ble_eq_true rfl, Nat.le_of_ble_eq_true rfl⟩) ⟨fun a U g mk q => by obtain ⟨q0, q1, qP, qK, qD⟩ := q; exact ⟨q0, q1, qP, va_K.moved (u := U) (U := U.calling g mk a) (Vm.Alike.refl U.vm) qK, qD⟩, va_recv hKc hPc (ci := 7) (q0 := 0) rfl rfl, fun U hU hW => ⟨rfl, by rw [hU], by rw [hU]; exact hPc, va_K.moved hW.alike hKc, hDc.weaken (fun _ _ _ _ => trivial)⟩⟩ rfl rfl hl.1 rfl (lv_room (Nat.le_of_ble_eq_true rfl)) d_Lw_law_334 ⟨Nat.le_of_ble_eq_true rfl, Nat.le_of_ble_eq_true rfl⟩) hS (fun q _ h => hFc q h) hFc (fun r_3 u t H1 locs ht hvm hw9 hB hz1 hk1 hS => ?_)
    obtain ⟨hP1, hK1, hD1⟩ := hB
    rw [ht] at hP1
    have hK1 := va_K.moved hvm.symm hK1
    obtain ⟨hP, hD⟩ := va_join (wr := [(b1, .inr (2, [.ref g0, .ref g1, .ref g2, .int 0])), (s0, .inr (3, [.ref r0, .ref t0, .ref w0, .ref l0, .ref k0, .ref v0, .ref v1, .ref v2, .int 0, .int 0, .int 0, .int 0])), (t0, .inr (4, [.ref u0, .ref u1, .ref u2, .ref u3, .ref u4, .int 0, .int 0, .int 0, .int 1])), (w0, .inr (5, [.ref r0, .ref t0, .ref y0, .ref y1])), (j4, .inl (ca, 401, .inl fw)), (h0, .inr (6, [.ref b0, .ref b1, .ref s0, .ref b3, .int 0, .int 0, .int 0, .int 0])), (o0, .inl (cl, 1, .inr (.inl fo)))]) (w1 := [(m0, .inr (7, [.ref j0, .ref j1, .ref j2, .ref j3, .ref j4, .int 0, .int 0, .int 0, .int 0, .int 0, .int 1, .ref j5, .int 0, .ref j6, .ref j7]))]) hP hD [7] [0, 1, 2, 3, 4, 5, 6] rfl rfl (by decide) (by decide) hk1 hFc hP1 hD1
    generalize H1 = H at hP hS ⊢
    have hP : va_P (dC, dI) vwCl [(b1, .inr (2, [.ref g0, .ref g1, .ref g2, .int 0])), (s0, .inr (3, [.ref r0, .ref t0, .ref w0, .ref l0, .ref k0, .ref v0, .ref v1, .ref v2, .int 0, .int 0, .int 0, .int 0])), (t0, .inr (4, [.ref u0, .ref u1, .ref u2, .ref u3, .ref u4, .int 0, .int 0, .int 0, .int 1])), (w0, .inr (5, [.ref r0, .ref t0, .ref y0, .ref y1])), (j4, .inl (ca, 401, .inl fw)), (h0, .inr (6, [.ref b0, .ref b1, .ref s0, .ref b3, .int 0, .int 0, .int 0, .int 0])), (o0, .inl (cl, 1, .inr (.inl fo))), (m0, .inr (7, [.ref j0, .ref j1, .ref j2, .ref j3, .ref j4, .int 0, .int 0, .int 0, .int 0, .int 0, .int 1, .ref j5, .int 0, .ref j6, .ref j7]))] H := hP
    have hD : va_D (fun q : Nat => s.heap.size ≤ q) [(b1, .inr (2, [.ref g0, .ref g1, .ref g2, .int 0])), (s0, .inr (3, [.ref r0, .ref t0, .ref w0, .ref l0, .ref k0, .ref v0, .ref v1, .ref v2, .int 0, .int 0, .int 0, .int 0])), (t0, .inr (4, [.ref u0, .ref u1, .ref u2, .ref u3, .ref u4, .int 0, .int 0, .int 0, .int 1])), (w0, .inr (5, [.ref r0, .ref t0, .ref y0, .ref y1])), (j4, .inl (ca, 401, .inl fw)), (h0, .inr (6, [.ref b0, .ref b1, .ref s0, .ref b3, .int 0, .int 0, .int 0, .int 0])), (o0, .inl (cl, 1, .inr (.inl fo))), (m0, .inr (7, [.ref j0, .ref j1, .ref j2, .ref j3, .ref j4, .int 0, .int 0, .int 0, .int 0, .int 0, .int 1, .ref j5, .int 0, .ref j6, .ref j7]))] := hD
    refine W.widen (k := 46) (n := 95487) (by decide) (by decide) ?_
    have hw9 : r_3 = 1 := hw9
    subst hw9
    refine lv_iload hx hb d_Lw_law_337 (lv_at hl 1 rfl) ?_
    refine lv_icmp_eq (tgt := 344) hx hb d_Lw_law_339 (by decide) (fun c_339 => ?_) (fun c_339 => absurd c_339 (by decide))
    refine lv_iload hx hb d_Lw_law_344 (lv_at hl 1 rfl) ?_
    refine lv_if_ne (tgt := 361) hx hb d_Lw_law_346 (by decide) (fun c_346 => ?_) (fun c_346 => absurd c_346 (by decide))
    refine lv_goto (tgt := 364) hx hb d_Lw_law_361 (by decide) ?_
    obtain ⟨v_4, ev_4⟩ : ∃ y : Int32, y = 0 + 2 := ⟨_, rfl⟩
    refine lv_iinc (v := v_4) (lv' := [(4, .int v_4), (6, .int 0), (5, .int 1), (0, .ref b), (1, .ref h0), (2, .ref m0), (3, .ref o0)]) hx hb d_Lw_law_364 hl (k := 6) rfl (by rw [ev_4]; rfl) (by decide) rfl (fun ls hl => ?_)
    refine lv_goto (tgt := 23) hx hb d_Lw_law_367 (by decide) ?_
    exact lw_exit C1 (by decide) (by decide) _ _ ls v_4 (by rw [ev_4]; decide) hS (lv_sub hl [3, 0] rfl)
  · refine lv_aload_n hx hb d_Lw_law_308 rfl (lv_at hl 1 rfl) ?_
    refine lv_aload_n hx hb d_Lw_law_309 rfl (lv_at hl 0 rfl) ?_
    refine lv_iload hx hb d_Lw_law_310 (lv_at hl 4 rfl) ?_
    refine lv_iconst (v := 1) hx hb d_Lw_law_312 (by decide) ?_
    refine lv_iadd hx hb d_Lw_law_313 ?_
    refine va_sld hx hb hX hbl hbA hS (by unfold vp_in; decide) d_Lw_law_314 ?_
    refine lv_aload_n hx hb d_Lw_law_315 rfl (lv_at hl 3 rfl) ?_
    have hPc := hP.sub (ws' := [(h0, .inr (6, [.ref b0, .ref b1, .ref s0, .ref b3, .int 0, .int 0, .int 0, .int 0])), (b1, .inr (2, [.ref g0, .ref g1, .ref g2, .int 0])), (s0, .inr (3, [.ref r0, .ref t0, .ref w0, .ref l0, .ref k0, .ref v0, .ref v1, .ref v2, .int 0, .int 0, .int 0, .int 0])), (o0, .inl (cl, 1, .inr (.inl fo)))]) [0, 1, 2, 7] rfl
    have hDc := hD.sub (ws' := [(h0, .inr (6, [.ref b0, .ref b1, .ref s0, .ref b3, .int 0, .int 0, .int 0, .int 0])), (b1, .inr (2, [.ref g0, .ref g1, .ref g2, .int 0])), (s0, .inr (3, [.ref r0, .ref t0, .ref w0, .ref l0, .ref k0, .ref v0, .ref v1, .ref v2, .int 0, .int 0, .int 0, .int 0])), (o0, .inl (cl, 1, .inr (.inl fo)))]) [0, 1, 2, 7] (by decide) rfl
    have hKc := hK.sub (tys' := [(cl, .long)]) [1] rfl
    have hFc := va_free (wc := [(h0, .inr (6, [.ref b0, .ref b1, .ref s0, .ref b3, .int 0, .int 0, .int 0, .int 0])), (b1, .inr (2, [.ref g0, .ref g1, .ref g2, .int 0])), (s0, .inr (3, [.ref r0, .ref t0, .ref w0, .ref l0, .ref k0, .ref v0, .ref v1, .ref v2, .int 0, .int 0, .int 0, .int 0])), (o0, .inl (cl, 1, .inr (.inl fo)))]) hD hS hA [0, 1, 2, 7] rfl
    refine va_calli (th_runS (n := 3) (As := [.ref h0, .int (xs (0 + 1 : Int32).toNatClampNeg), .ref o0]) (rest := []) ⟨hx, hb, hml, hown, hw⟩ (c_Lw_count_0 l dC dI h0 b0 b1 s0 b3 g0 g1 g2 r0 t0 w0 l0 k0 v0 v1 v2 o0 cl H.size (xs (0 + 1 : Int32).toNatClampNeg) fo (fun q => hc (Or.inl q)) (fun q => hc (Or.inr q))) k_591 k_28 k_589 k_590 rfl rfl (by decide +kernel) ⟨Nat.le_of_ble_eq_true rfl, Nat.le_of_ble_eq_true rfl⟩ ⟨fun a U g mk q => by obtain ⟨q0, q1, qP, qK, qD⟩ := q; exact ⟨q0, q1, qP, va_K.moved (u := U) (U := U.calling g mk a) (Vm.Alike.refl U.vm) qK, qD⟩, fun U hU hW => ⟨rfl, by rw [hU], by rw [hU]; exact hPc, va_K.moved hW.alike hKc, hDc.weaken (fun _ _ _ _ => trivial)⟩⟩ rfl rfl hl.1 rfl (lv_room (Nat.le_of_ble_eq_true rfl)) d_Lw_law_316 ⟨Nat.le_of_ble_eq_true rfl, Nat.le_of_ble_eq_true rfl⟩) hS (fun q _ h => hFc q h) hFc (fun r_5 u t H1 locs ht hvm hw9 hB hz1 hk1 hS => ?_)
    obtain ⟨hP1, hK1, hD1⟩ := hB
    rw [ht] at hP1
    have hK1 := va_K.moved hvm.symm hK1
    obtain ⟨hP, hD⟩ := va_join (wr := [(t0, .inr (4, [.ref u0, .ref u1, .ref u2, .ref u3, .ref u4, .int 0, .int 0, .int 0, .int 1])), (w0, .inr (5, [.ref r0, .ref t0, .ref y0, .ref y1])), (m0, .inr (7, [.ref j0, .ref j1, .ref j2, .ref j3, .ref j4, .int 0, .int 0, .int 0, .int 0, .int 0, .int 0, .ref j5, .int 0, .ref j6, .ref j7])), (j4, .inl (ca, 401, .inl fw))]) (w1 := [(o0, .inl (cl, 1, .inr (.inl (vp_updL fo ((0 : Int32).toNatClampNeg) ((0 : Int32).toInt64))))), (h0, .inr (6, [.ref b0, .ref b1, .ref s0, .ref b3, .int 0, .int 0, .int 0, .int 0])), (b1, .inr (2, [.ref g0, .ref g1, .ref g2, .int 0])), (s0, .inr (3, [.ref r0, .ref t0, .ref w0, .ref l0, .ref k0, .ref v0, .ref v1, .ref v2, .int 0, .int 0, .int 0, .int 0]))]) hP hD [0, 1, 2, 7] [3, 4, 5, 6] rfl rfl (by decide) (by decide) hk1 hFc hP1 hD1
    generalize H1 = H at hP hS ⊢
    have hP : va_P (dC, dI) vwCl [(t0, .inr (4, [.ref u0, .ref u1, .ref u2, .ref u3, .ref u4, .int 0, .int 0, .int 0, .int 1])), (w0, .inr (5, [.ref r0, .ref t0, .ref y0, .ref y1])), (m0, .inr (7, [.ref j0, .ref j1, .ref j2, .ref j3, .ref j4, .int 0, .int 0, .int 0, .int 0, .int 0, .int 0, .ref j5, .int 0, .ref j6, .ref j7])), (j4, .inl (ca, 401, .inl fw)), (o0, .inl (cl, 1, .inr (.inl (vp_updL fo ((0 : Int32).toNatClampNeg) ((0 : Int32).toInt64))))), (h0, .inr (6, [.ref b0, .ref b1, .ref s0, .ref b3, .int 0, .int 0, .int 0, .int 0])), (b1, .inr (2, [.ref g0, .ref g1, .ref g2, .int 0])), (s0, .inr (3, [.ref r0, .ref t0, .ref w0, .ref l0, .ref k0, .ref v0, .ref v1, .ref v2, .int 0, .int 0, .int 0, .int 0]))] H := hP
    have hD : va_D (fun q : Nat => s.heap.size ≤ q) [(t0, .inr (4, [.ref u0, .ref u1, .ref u2, .ref u3, .ref u4, .int 0, .int 0, .int 0, .int 1])), (w0, .inr (5, [.ref r0, .ref t0, .ref y0, .ref y1])), (m0, .inr (7, [.ref j0, .ref j1, .ref j2, .ref j3, .ref j4, .int 0, .int 0, .int 0, .int 0, .int 0, .int 0, .ref j5, .int 0, .ref j6, .ref j7])), (j4, .inl (ca, 401, .inl fw)), (o0, .inl (cl, 1, .inr (.inl (vp_updL fo ((0 : Int32).toNatClampNeg) ((0 : Int32).toInt64))))), (h0, .inr (6, [.ref b0, .ref b1, .ref s0, .ref b3, .int 0, .int 0, .int 0, .int 0])), (b1, .inr (2, [.ref g0, .ref g1, .ref g2, .int 0])), (s0, .inr (3, [.ref r0, .ref t0, .ref w0, .ref l0, .ref k0, .ref v0, .ref v1, .ref v2, .int 0, .int 0, .int 0, .int 0]))] := hD
    refine W.widen (k := 45) (n := 95481) (by decide) (by decide) ?_
    have hw9 : r_5 = 0 := hw9
    subst hw9
    refine lv_istore (lv' := [(5, .int 0), (0, .ref b), (1, .ref h0), (2, .ref m0), (3, .ref o0), (4, .int 0)]) hx hb d_Lw_law_319 hl (by decide) rfl (fun ls hl => ?_)
    refine lv_aload_n hx hb d_Lw_law_321 rfl (lv_at hl 3 rfl) ?_
    refine lv_aload_n hx hb d_Lw_law_322 rfl (lv_at hl 1 rfl) ?_
    refine lv_iload hx hb d_Lw_law_323 (lv_at hl 5 rfl) ?_
    refine lv_iconst (v := 1) hx hb d_Lw_law_325 (by decide) ?_
    refine lv_iadd hx hb d_Lw_law_326 ?_
    refine va_sld hx hb hX hbl hbA hS (by unfold vp_in; decide) d_Lw_law_327 ?_
    have hPc := hP.sub (ws' := [(m0, .inr (7, [.ref j0, .ref j1, .ref j2, .ref j3, .ref j4, .int 0, .int 0, .int 0, .int 0, .int 0, .int 0, .ref j5, .int 0, .ref j6, .ref j7]))]) [2] rfl
    have hDc := hD.sub (ws' := [(m0, .inr (7, [.ref j0, .ref j1, .ref j2, .ref j3, .ref j4, .int 0, .int 0, .int 0, .int 0, .int 0, .int 0, .ref j5, .int 0, .ref j6, .ref j7]))]) [2] (by decide) rfl
    have hKc := hK.sub (tys' := []) [] rfl
    have hFc := va_free (wc := [(m0, .inr (7, [.ref j0, .ref j1, .ref j2, .ref j3, .ref j4, .int 0, .int 0, .int 0, .int 0, .int 0, .int 0, .ref j5, .int 0, .ref j6, .ref j7]))]) hD hS hA [2] rfl
    refine va_calli (va_runV (As := [.int (xs (0 + 1 : Int32).toNatClampNeg)]) (rest := []) ⟨hx, hb, hml, hown, hw⟩ (c_Md_count_0 l dC dI m0 j0 j1 j2 j3 j4 j5 j6 j7 H.size 0 0 0 (xs (0 + 1 : Int32).toNatClampNeg) (fun q => hc (Or.inl (Int32.lt_iff_toInt_lt.mp q))) (fun q => hc (Or.inr (Int32.lt_iff_toInt_lt.mp q)))) (cb_V (C := R_Md) 1 hw k_705 k_37 k_702 k_703 k_704 rfl rfl (by decide +kernel) ⟨Nat.le_of_ble_eq_true rfl, Nat.le_of_ble_eq_true rfl⟩) ⟨fun a U g mk q => by obtain ⟨q0, q1, qP, qK, qD⟩ := q; exact ⟨q0, q1, qP, va_K.moved (u := U) (U := U.calling g mk a) (Vm.Alike.refl U.vm) qK, qD⟩, va_recv hKc hPc (ci := 7) (q0 := 0) rfl rfl, fun U hU hW => ⟨rfl, by rw [hU], by rw [hU]; exact hPc, va_K.moved hW.alike hKc, hDc.weaken (fun _ _ _ _ => trivial)⟩⟩ rfl rfl hl.1 rfl (lv_room (Nat.le_of_ble_eq_true rfl)) d_Lw_law_328 ⟨Nat.le_of_ble_eq_true rfl, Nat.le_of_ble_eq_true rfl⟩) hS (fun q _ h => hFc q h) hFc (fun r_6 u t H1 locs ht hvm hw9 hB hz1 hk1 hS => ?_)
    obtain ⟨hP1, hK1, hD1⟩ := hB
    rw [ht] at hP1
    have hK1 := va_K.moved hvm.symm hK1
    obtain ⟨hP, hD⟩ := va_join (wr := [(t0, .inr (4, [.ref u0, .ref u1, .ref u2, .ref u3, .ref u4, .int 0, .int 0, .int 0, .int 1])), (w0, .inr (5, [.ref r0, .ref t0, .ref y0, .ref y1])), (j4, .inl (ca, 401, .inl fw)), (o0, .inl (cl, 1, .inr (.inl (vp_updL fo ((0 : Int32).toNatClampNeg) ((0 : Int32).toInt64))))), (h0, .inr (6, [.ref b0, .ref b1, .ref s0, .ref b3, .int 0, .int 0, .int 0, .int 0])), (b1, .inr (2, [.ref g0, .ref g1, .ref g2, .int 0])), (s0, .inr (3, [.ref r0, .ref t0, .ref w0, .ref l0, .ref k0, .ref v0, .ref v1, .ref v2, .int 0, .int 0, .int 0, .int 0]))]) (w1 := [(m0, .inr (7, [.ref j0, .ref j1, .ref j2, .ref j3, .ref j4, .int 0, .int 0, .int 0, .int 0, .int 0, .int 0, .ref j5, .int 0, .ref j6, .ref j7]))]) hP hD [2] [0, 1, 3, 4, 5, 6, 7] rfl rfl (by decide) (by decide) hk1 hFc hP1 hD1
    generalize H1 = H at hP hS ⊢
    have hP : va_P (dC, dI) vwCl [(t0, .inr (4, [.ref u0, .ref u1, .ref u2, .ref u3, .ref u4, .int 0, .int 0, .int 0, .int 1])), (w0, .inr (5, [.ref r0, .ref t0, .ref y0, .ref y1])), (j4, .inl (ca, 401, .inl fw)), (o0, .inl (cl, 1, .inr (.inl (vp_updL fo ((0 : Int32).toNatClampNeg) ((0 : Int32).toInt64))))), (h0, .inr (6, [.ref b0, .ref b1, .ref s0, .ref b3, .int 0, .int 0, .int 0, .int 0])), (b1, .inr (2, [.ref g0, .ref g1, .ref g2, .int 0])), (s0, .inr (3, [.ref r0, .ref t0, .ref w0, .ref l0, .ref k0, .ref v0, .ref v1, .ref v2, .int 0, .int 0, .int 0, .int 0])), (m0, .inr (7, [.ref j0, .ref j1, .ref j2, .ref j3, .ref j4, .int 0, .int 0, .int 0, .int 0, .int 0, .int 0, .ref j5, .int 0, .ref j6, .ref j7]))] H := hP
    have hD : va_D (fun q : Nat => s.heap.size ≤ q) [(t0, .inr (4, [.ref u0, .ref u1, .ref u2, .ref u3, .ref u4, .int 0, .int 0, .int 0, .int 1])), (w0, .inr (5, [.ref r0, .ref t0, .ref y0, .ref y1])), (j4, .inl (ca, 401, .inl fw)), (o0, .inl (cl, 1, .inr (.inl (vp_updL fo ((0 : Int32).toNatClampNeg) ((0 : Int32).toInt64))))), (h0, .inr (6, [.ref b0, .ref b1, .ref s0, .ref b3, .int 0, .int 0, .int 0, .int 0])), (b1, .inr (2, [.ref g0, .ref g1, .ref g2, .int 0])), (s0, .inr (3, [.ref r0, .ref t0, .ref w0, .ref l0, .ref k0, .ref v0, .ref v1, .ref v2, .int 0, .int 0, .int 0, .int 0])), (m0, .inr (7, [.ref j0, .ref j1, .ref j2, .ref j3, .ref j4, .int 0, .int 0, .int 0, .int 0, .int 0, .int 0, .ref j5, .int 0, .ref j6, .ref j7]))] := hD
    refine W.widen (k := 45) (n := 95481) (by decide) (by decide) ?_
    have hw9 : r_6 = 0 := hw9
    subst hw9
    refine lv_istore (lv' := [(6, .int 0), (5, .int 0), (0, .ref b), (1, .ref h0), (2, .ref m0), (3, .ref o0), (4, .int 0)]) hx hb d_Lw_law_331 hl (by decide) rfl (fun ls hl => ?_)
    refine lv_aload_n hx hb d_Lw_law_333 rfl (lv_at hl 4 rfl) ?_
    have hPc := hP.sub (ws' := [(m0, .inr (7, [.ref j0, .ref j1, .ref j2, .ref j3, .ref j4, .int 0, .int 0, .int 0, .int 0, .int 0, .int 0, .ref j5, .int 0, .ref j6, .ref j7]))]) [7] rfl
    have hDc := hD.sub (ws' := [(m0, .inr (7, [.ref j0, .ref j1, .ref j2, .ref j3, .ref j4, .int 0, .int 0, .int 0, .int 0, .int 0, .int 0, .ref j5, .int 0, .ref j6, .ref j7]))]) [7] (by decide) rfl
    have hKc := hK.sub (tys' := []) [] rfl
    have hFc := va_free (wc := [(m0, .inr (7, [.ref j0, .ref j1, .ref j2, .ref j3, .ref j4, .int 0, .int 0, .int 0, .int 0, .int 0, .int 0, .ref j5, .int 0, .ref j6, .ref j7]))]) hD hS hA [7] rfl
    refine va_calli (va_runV (As := []) (rest := []) ⟨hx, hb, hml, hown, hw⟩ (c_Md_thrown l dC dI m0 j0 j1 j2 j3 j4 j5 j6 j7 H.size 0 0 0 0 0 0 0) (cb_V (C := R_Md) 0 hw k_653 k_37 k_650 k_651 k_652 rfl rfl (by decide +kernel) ⟨Nat.le_of_ble_eq_true rfl, Nat.le_of_ble_eq_true rfl⟩) ⟨fun a U g mk q => by obtain ⟨q0, q1, qP, qK, qD⟩ := q; exact ⟨q0, q1, qP, va_K.moved (u := U) (U := U.calling g mk a) (Vm.Alike.refl U.vm) qK, qD⟩, va_recv hKc hPc (ci := 7) (q0 := 0) rfl rfl, fun U hU hW => ⟨rfl, by rw [hU], by rw [hU]; exact hPc, va_K.moved hW.alike hKc, hDc.weaken (fun _ _ _ _ => trivial)⟩⟩ rfl rfl hl.1 rfl (lv_room (Nat.le_of_ble_eq_true rfl)) d_Lw_law_334 ⟨Nat.le_of_ble_eq_true rfl, Nat.le_of_ble_eq_true rfl⟩) hS (fun q _ h => hFc q h) hFc (fun r_7 u t H1 locs ht hvm hw9 hB hz1 hk1 hS => ?_)
    obtain ⟨hP1, hK1, hD1⟩ := hB
    rw [ht] at hP1
    have hK1 := va_K.moved hvm.symm hK1
    obtain ⟨hP, hD⟩ := va_join (wr := [(t0, .inr (4, [.ref u0, .ref u1, .ref u2, .ref u3, .ref u4, .int 0, .int 0, .int 0, .int 1])), (w0, .inr (5, [.ref r0, .ref t0, .ref y0, .ref y1])), (j4, .inl (ca, 401, .inl fw)), (o0, .inl (cl, 1, .inr (.inl (vp_updL fo ((0 : Int32).toNatClampNeg) ((0 : Int32).toInt64))))), (h0, .inr (6, [.ref b0, .ref b1, .ref s0, .ref b3, .int 0, .int 0, .int 0, .int 0])), (b1, .inr (2, [.ref g0, .ref g1, .ref g2, .int 0])), (s0, .inr (3, [.ref r0, .ref t0, .ref w0, .ref l0, .ref k0, .ref v0, .ref v1, .ref v2, .int 0, .int 0, .int 0, .int 0]))]) (w1 := [(m0, .inr (7, [.ref j0, .ref j1, .ref j2, .ref j3, .ref j4, .int 0, .int 0, .int 0, .int 0, .int 0, .int 0, .ref j5, .int 0, .ref j6, .ref j7]))]) hP hD [7] [0, 1, 2, 3, 4, 5, 6] rfl rfl (by decide) (by decide) hk1 hFc hP1 hD1
    generalize H1 = H at hP hS ⊢
    have hP : va_P (dC, dI) vwCl [(t0, .inr (4, [.ref u0, .ref u1, .ref u2, .ref u3, .ref u4, .int 0, .int 0, .int 0, .int 1])), (w0, .inr (5, [.ref r0, .ref t0, .ref y0, .ref y1])), (j4, .inl (ca, 401, .inl fw)), (o0, .inl (cl, 1, .inr (.inl (vp_updL fo ((0 : Int32).toNatClampNeg) ((0 : Int32).toInt64))))), (h0, .inr (6, [.ref b0, .ref b1, .ref s0, .ref b3, .int 0, .int 0, .int 0, .int 0])), (b1, .inr (2, [.ref g0, .ref g1, .ref g2, .int 0])), (s0, .inr (3, [.ref r0, .ref t0, .ref w0, .ref l0, .ref k0, .ref v0, .ref v1, .ref v2, .int 0, .int 0, .int 0, .int 0])), (m0, .inr (7, [.ref j0, .ref j1, .ref j2, .ref j3, .ref j4, .int 0, .int 0, .int 0, .int 0, .int 0, .int 0, .ref j5, .int 0, .ref j6, .ref j7]))] H := hP
    have hD : va_D (fun q : Nat => s.heap.size ≤ q) [(t0, .inr (4, [.ref u0, .ref u1, .ref u2, .ref u3, .ref u4, .int 0, .int 0, .int 0, .int 1])), (w0, .inr (5, [.ref r0, .ref t0, .ref y0, .ref y1])), (j4, .inl (ca, 401, .inl fw)), (o0, .inl (cl, 1, .inr (.inl (vp_updL fo ((0 : Int32).toNatClampNeg) ((0 : Int32).toInt64))))), (h0, .inr (6, [.ref b0, .ref b1, .ref s0, .ref b3, .int 0, .int 0, .int 0, .int 0])), (b1, .inr (2, [.ref g0, .ref g1, .ref g2, .int 0])), (s0, .inr (3, [.ref r0, .ref t0, .ref w0, .ref l0, .ref k0, .ref v0, .ref v1, .ref v2, .int 0, .int 0, .int 0, .int 0])), (m0, .inr (7, [.ref j0, .ref j1, .ref j2, .ref j3, .ref j4, .int 0, .int 0, .int 0, .int 0, .int 0, .int 0, .ref j5, .int 0, .ref j6, .ref j7]))] := hD
    refine W.widen (k := 45) (n := 95481) (by decide) (by decide) ?_
    have hw9 : r_7 = 0 := hw9
    subst hw9
    refine lv_iload hx hb d_Lw_law_337 (lv_at hl 1 rfl) ?_
    refine lv_icmp_eq (tgt := 344) hx hb d_Lw_law_339 (by decide) (fun c_339 => ?_) (fun c_339 => absurd c_339 (by decide))
    refine lv_iload hx hb d_Lw_law_344 (lv_at hl 1 rfl) ?_
    refine lv_if_ne (tgt := 361) hx hb d_Lw_law_346 (by decide) (fun c_346 => absurd c_346 (by decide)) (fun c_346 => ?_)
    refine lv_aload_n hx hb d_Lw_law_349 rfl (lv_at hl 5 rfl) ?_
    refine lv_iconst (v := 0) hx hb d_Lw_law_350 (by decide) ?_
    refine va_lald hx hb hK hP 3 1 rfl rfl (by unfold vp_in; decide) d_Lw_law_351 ?_
    refine lv_iload hx hb d_Lw_law_352 (lv_at hl 0 rfl) ?_
    refine lv_i2l (v := (0 : Int32).toInt64) hx hb d_Lw_law_354 rfl ?_
    refine W.lcmp hx hb d_Lw_law_355 ?_
    refine lv_if_eq (tgt := 361) hx hb d_Lw_law_356 (by decide) (fun c_356 => ?_) (fun c_356 => absurd c_356 (fun q => q (by rw [pk_uLs]; exact lg_self _)))
    refine lv_goto (tgt := 364) hx hb d_Lw_law_361 (by decide) ?_
    obtain ⟨v_8, ev_8⟩ : ∃ y : Int32, y = 0 + 2 := ⟨_, rfl⟩
    refine lv_iinc (v := v_8) (lv' := [(4, .int v_8), (6, .int 0), (5, .int 0), (0, .ref b), (1, .ref h0), (2, .ref m0), (3, .ref o0)]) hx hb d_Lw_law_364 hl (k := 6) rfl (by rw [ev_8]; rfl) (by decide) rfl (fun ls hl => ?_)
    refine lv_goto (tgt := 23) hx hb d_Lw_law_367 (by decide) ?_
    exact lw_exit C1 (by decide) (by decide) _ _ ls v_8 (by rw [ev_8]; decide) hS (lv_sub hl [3, 0] rfl)

set_option maxHeartbeats 4000000 in
set_option maxRecDepth 100000 in
/-- case 6 -/
theorem lw_c6 {p : Program} {l : Launch} {e : Env} {s : State} {m : MethodId} {below : List Frame} {meth : Method} {c : Code} {dC : Nat → ClassId} {dI : Nat → Nat → Nat} {b : Nat} {xs : Nat → Int32} (hfl : l.flags = pinnedFlags ++ [noTraceFlag]) (C1 : lw_At p s m meth c b 2 xs) (hZ0 : tw_Z s s.heap s.heap.size) (h0 b0 b1 s0 b3 g0 g1 g2 r0 t0 w0 l0 k0 v0 v1 v2 u0 u1 u2 u3 u4 y0 y1 m0 j0 j1 j2 j3 j4 j5 j6 j7 o0 : Nat) (ca cl : ClassId) (fw : Nat → Int32) (fo : Nat → Int64) (H : Heap) (locs : List Loc) (ls : Array Slot) (hK : va_K (dC, dI) vwCl [(ca, .int), (cl, .long)] s) (hP : va_P (dC, dI) vwCl [(h0, .inr (6, [.ref b0, .ref b1, .ref s0, .ref b3, .int 0, .int 0, .int 0, .int 0])), (b1, .inr (2, [.ref g0, .ref g1, .ref g2, .int 0])), (s0, .inr (3, [.ref r0, .ref t0, .ref w0, .ref l0, .ref k0, .ref v0, .ref v1, .ref v2, .int 0, .int 0, .int 0, .int 0])), (t0, .inr (4, [.ref u0, .ref u1, .ref u2, .ref u3, .ref u4, .int 0, .int 0, .int 0, .int 1])), (w0, .inr (5, [.ref r0, .ref t0, .ref y0, .ref y1])), (m0, .inr (7, [.ref j0, .ref j1, .ref j2, .ref j3, .ref j4, .int 0, .int 0, .int 0, .int 0, .int 0, .int 0, .ref j5, .int 0, .ref j6, .ref j7])), (j4, .inl (ca, 401, .inl fw)), (o0, .inl (cl, 1, .inr (.inl fo)))] H) (hD : va_D (fun q : Nat => s.heap.size ≤ q) [(h0, .inr (6, [.ref b0, .ref b1, .ref s0, .ref b3, .int 0, .int 0, .int 0, .int 0])), (b1, .inr (2, [.ref g0, .ref g1, .ref g2, .int 0])), (s0, .inr (3, [.ref r0, .ref t0, .ref w0, .ref l0, .ref k0, .ref v0, .ref v1, .ref v2, .int 0, .int 0, .int 0, .int 0])), (t0, .inr (4, [.ref u0, .ref u1, .ref u2, .ref u3, .ref u4, .int 0, .int 0, .int 0, .int 1])), (w0, .inr (5, [.ref r0, .ref t0, .ref y0, .ref y1])), (m0, .inr (7, [.ref j0, .ref j1, .ref j2, .ref j3, .ref j4, .int 0, .int 0, .int 0, .int 0, .int 0, .int 0, .ref j5, .int 0, .ref j6, .ref j7])), (j4, .inl (ca, 401, .inl fw)), (o0, .inl (cl, 1, .inr (.inl fo)))]) (hS : va_S (fun q : Nat => s.heap.size ≤ q) s.heap H locs) (hl : lv_has ls 7 [(0, .ref b), (1, .ref h0), (2, .ref m0), (3, .ref o0), (4, .int 0)]) : W p l e room_1 s m #[Value.ref b] below meth c H locs 45 95481 (lw_Z below #[Value.ref b] s) (F0 m 364 ls []) := by
  obtain ⟨hx, hb, hr, hml, hown, hts, hX, hbl, hlocks, hgv⟩ := id C1
  have hw : ∀ w ∈ bg_W, w.before #[Value.ref b] s = true := fun w h => hts w (bg_sub w h)
  have hown : s.vm.findClass R_Lw = some m.cls := hown
  have hA : ∀ q : Nat, s.heap.size ≤ q → (fun q : Nat => s.heap.size ≤ q) q := fun _ h => h
  have hbA : ¬ (fun q : Nat => s.heap.size ≤ q) b := Nat.not_le.mpr hbl
  obtain ⟨v_1, ev_1⟩ : ∃ y : Int32, y = 0 + 2 := ⟨_, rfl⟩
  refine lv_iinc (v := v_1) (lv' := [(4, .int v_1), (0, .ref b), (1, .ref h0), (2, .ref m0), (3, .ref o0)]) hx hb d_Lw_law_364 hl (k := 4) rfl (by rw [ev_1]; rfl) (by decide) rfl (fun ls hl => ?_)
  refine lv_goto (tgt := 23) hx hb d_Lw_law_367 (by decide) ?_
  exact lw_exit C1 (by decide) (by decide) _ _ ls v_1 (by rw [ev_1]; decide) hS (lv_sub hl [1, 0] rfl)
end
section
theorem d_Lw_law_32 : decode code 32 = .ok (.aload_n 0, 1) := by decide +kernel
theorem d_Lw_law_33 : decode code 33 = .ok (.iload 4, 2) := by decide +kernel
theorem d_Lw_law_35 : decode code 35 = .ok (.iaload, 1) := by decide +kernel
theorem d_Lw_law_36 : decode code 36 = .ok (.bipush 7, 2) := by decide +kernel
theorem d_Lw_law_38 : decode code 38 = .ok (.iand, 1) := by decide +kernel
theorem d_Lw_law_39 : decode code 39 = .ok (.tableswitch 325 0 5 #[37, 93, 149, 193, 206, 269], 37) := by decide +kernel
set_option maxHeartbeats 4000000 in
set_option maxRecDepth 100000 in
theorem whole_start {p : Program} {e : Env} {s : State} {m : MethodId} {below : List Frame} {meth : Method} {c : Code} (l : Launch) (hfl : l.flags = pinnedFlags ++ [noTraceFlag]) {b L : Nat} {xs : Nat → Int32} (hL : L ≤ 2) (C0 : lw_At p s m meth c b L xs) : W p l e room_1 s m #[Value.ref b] below meth c s.heap [] 0 0 (lw_Z below #[Value.ref b] s) (entryFrame m ([Value.ref b] : List Value).toArray 7) := by
  obtain ⟨hx, hb, hr, hml, hown, hts, hX, hbl, hlocks, hgv⟩ := id C0
  have hw : ∀ w ∈ bg_W, w.before #[Value.ref b] s = true := fun w h => hts w (bg_sub w h)
  have hown : s.vm.findClass R_Lw = some m.cls := hown
  have hA : ∀ q : Nat, s.heap.size ≤ q → (fun q : Nat => s.heap.size ≤ q) q := fun _ h => h
  have hbA : ¬ (fun q : Nat => s.heap.size ≤ q) b := Nat.not_le.mpr hbl
  have hgs := flat_of_before _ hgv
  have hZ0 : tw_Z s s.heap s.heap.size := ⟨tw_Zs.of (hts (Cond.laysStatic "java/lang/Throwable" "UNASSIGNED_STACK" "[Ljava/lang/StackTraceElement;") (List.mem_of_getElem? (i := 481) (by decide +kernel))) (hgs (Cond.isRef (.static "java/lang/Throwable" "UNASSIGNED_STACK" "[Ljava/lang/StackTraceElement;")) (by decide +kernel)), tw_Zs.of (hts (Cond.laysStatic "java/lang/Throwable" "SUPPRESSED_SENTINEL" "Ljava/util/List;") (List.mem_of_getElem? (i := 483) (by decide +kernel))) (hgs (Cond.isRef (.static "java/lang/Throwable" "SUPPRESSED_SENTINEL" "Ljava/util/List;")) (by decide +kernel))⟩
  obtain ⟨c0, iS0, hKn0⟩ := u_known (C := R_Ck) (T := F_Ck) (N := 2) (n := 2) hw in_Ck (hw (Cond.instantiable "ClauseSearch$Check" 2) k_203)
  obtain ⟨c1, iS1, hKn1⟩ := u_known (C := R_Ls) (T := F_Ls) (N := 8) (n := 8) hw in_Ls (hw (Cond.instantiable "ClauseSearch$Lesson" 8) k_165)
  obtain ⟨c2, iS2, hKn2⟩ := u_known (C := R_Rw) (T := F_Rw) (N := 4) (n := 4) hw in_Rw (hw (Cond.instantiable "ClauseSearch$Rows" 4) k_55)
  obtain ⟨c3, iS3, hKn3⟩ := u_known (C := R_Sr) (T := F_Sr) (N := 12) (n := 12) hw in_Sr (hw (Cond.instantiable "ClauseSearch$Search" 12) k_89)
  obtain ⟨c4, iS4, hKn4⟩ := u_known (C := R_Tr) (T := F_Tr) (N := 9) (n := 9) hw in_Tr (hw (Cond.instantiable "ClauseSearch$Trail" 9) k_91)
  obtain ⟨c5, iS5, hKn5⟩ := u_known (C := R_Wt) (T := F_Wt) (N := 4) (n := 4) hw in_Wt (hw (Cond.instantiable "ClauseSearch$Watch" 4) k_143)
  obtain ⟨c6, iS6, hKn6⟩ := u_known (C := R_Cs) (T := F_Cs) (N := 8) (n := 8) hw in_Cs (hw (Cond.instantiable "ClauseSearch" 8) k_47)
  obtain ⟨c7, iS7, hKn7⟩ := u_known (C := R_Md) (T := F_Md) (N := 15) (n := 15) hw in_Md (hw (Cond.instantiable "ClauseSearchModel" 15) k_598)
  obtain ⟨dC, dI, hKc⟩ : ∃ (dC : Nat → ClassId) (dI : Nat → Nat → Nat), ∀ (k : Nat) (q : vw_C), vwCl[k]? = some q → u_Kn s q.1 q.2.1 q.2.2 (dC k) (dI k) := by
    refine ⟨fun k => if k = 0 then c0 else if k = 1 then c1 else if k = 2 then c2 else if k = 3 then c3 else if k = 4 then c4 else if k = 5 then c5 else if k = 6 then c6 else c7, fun k => if k = 0 then iS0 else if k = 1 then iS1 else if k = 2 then iS2 else if k = 3 then iS3 else if k = 4 then iS4 else if k = 5 then iS5 else if k = 6 then iS6 else iS7, ?_⟩
    intro k q hq
    match k, hq with
    | 0, hq => cases hq; exact hKn0
    | 1, hq => cases hq; exact hKn1
    | 2, hq => cases hq; exact hKn2
    | 3, hq => cases hq; exact hKn3
    | 4, hq => cases hq; exact hKn4
    | 5, hq => cases hq; exact hKn5
    | 6, hq => cases hq; exact hKn6
    | 7, hq => cases hq; exact hKn7
    | k + 8, hq => simp [vwCl] at hq
  have hS : va_S (fun q : Nat => s.heap.size ≤ q) s.heap s.heap [] := va_S.rf
  have hK : va_K (dC, dI) vwCl [] s := ⟨hKc, fun k q h => by simp at h⟩
  have hP : va_P (dC, dI) vwCl [] s.heap := fun k q h => by simp at h
  have hD : va_D (fun q : Nat => s.heap.size ≤ q) [] := ⟨fun i j p q h => by simp at h, fun k q h => by simp at h⟩
  have hl := lv_entry ([.ref b]) (n := 7) (Nat.le_of_ble_eq_true rfl)
  rw [lg_entry_eq]
  generalize (lg_sl ([.ref b]) ++ List.replicate (7 - (lg_sl ([.ref b])).length) Slot.unset).toArray = ls at hl ⊢
  have hl : lv_has ls 7 [(0, .ref b)] := hl
  obtain ⟨H, hH⟩ : ∃ H : Heap, H = s.heap := ⟨_, rfl⟩
  rw [← hH] at hP
  have hS : va_S (fun q : Nat => s.heap.size ≤ q) s.heap H [] := by rw [hH]; exact va_S.rf
  show W p l e room_1 s m _ below meth c s.heap [] 0 0 _ _
  conv => arg 11; rw [← hH]
  refine va_new (ci := 6) (fs := [.null, .null, .null, .null, .int 0, .int 0, .int 0, .int 0]) (C := R_Cs) (T := F_Cs) (N := 8) hx hb hw in_Cs t_Cs t_Cs_ok hown (hw (Cond.classLink "ClauseSearchLaw" 8 "ClauseSearch") k_46) (hw (Cond.instantiable "ClauseSearch" 8) k_47) (hw (Cond.initialized "ClauseSearch") k_29) hK hP hD hS hA rfl (fun j hj => by rcases (show j = 0 ∨ j = 1 ∨ j = 2 ∨ j = 3 ∨ j = 4 ∨ j = 5 ∨ j = 6 ∨ j = 7 by omega) with rfl | rfl | rfl | rfl | rfl | rfl | rfl | rfl <;> rfl) (Nat.le_of_ble_eq_true rfl) (Nat.le_of_ble_eq_true rfl) d_Lw_law_0 (fun q_1 H hP hD hS => ?_)
  have hP : va_P (dC, dI) vwCl [(q_1, .inr (6, [.null, .null, .null, .null, .int 0, .int 0, .int 0, .int 0]))] H := hP
  have hD : va_D (fun q : Nat => s.heap.size ≤ q) [(q_1, .inr (6, [.null, .null, .null, .null, .int 0, .int 0, .int 0, .int 0]))] := hD
  refine W.widen (k := 1) (n := 8) (by decide) (by decide) ?_
  refine lv_dup hx hb d_Lw_law_3 rfl ?_
  have hPc := hP.sub (ws' := [(q_1, .inr (6, [.null, .null, .null, .null, .int 0, .int 0, .int 0, .int 0]))]) [0] rfl
  have hDc := hD.sub (ws' := [(q_1, .inr (6, [.null, .null, .null, .null, .int 0, .int 0, .int 0, .int 0]))]) [0] (by decide) rfl
  have hKc := hK.sub (tys' := []) [] rfl
  have hFc := va_free (wc := [(q_1, .inr (6, [.null, .null, .null, .null, .int 0, .int 0, .int 0, .int 0]))]) hD hS hA [0] rfl
  refine va_callv (va_runI (As := []) (rest := [.ref q_1]) ⟨hx, hb, hml, hown, hw⟩ (c_Cs_init l dC dI q_1 H.size) (cb_I 0 hw k_50 k_29 k_48 k_49 rfl rfl rfl (by decide +kernel) ⟨Nat.le_of_ble_eq_true rfl, Nat.le_of_ble_eq_true rfl⟩) ⟨fun a U g mk q => by obtain ⟨q0, q1, qP, qK, qD⟩ := q; exact ⟨q0, q1, qP, va_K.moved (u := U) (U := U.calling g mk a) (Vm.Alike.refl U.vm) qK, qD⟩, fun U hU hW => ⟨rfl, by rw [hU], by rw [hU]; exact hPc, va_K.moved hW.alike hKc, hDc.weaken (fun _ _ _ _ => trivial)⟩⟩ rfl rfl hl.1 rfl (lv_room (Nat.le_of_ble_eq_true rfl)) d_Lw_law_4 ⟨Nat.le_of_ble_eq_true rfl, Nat.le_of_ble_eq_true rfl⟩) hS (fun q _ h => hFc q h) hFc (fun u t H1 locs ht hvm hw9 hB hz1 hk1 hS => ?_)
  obtain ⟨q_2, z_3, q_4, q_5, z_6, q_7, z_8, q_9, z_10, q_11, q_12, z_13, q_14, z_15, q_16, z_17, q_18, q_19, z_20, q_21, z_22, q_23, z_24, q_25, z_26, q_27, z_28, q_29, q_30, q_31, z_32, q_33, z_34, g_35, q_36, q_37, z_38, q_39, z_40, q_41, z_42, q_43, q_44, q_45, z_46, q_47, z_48, q_49, z_50, q_51, z_52, q_53, z_54, q_55, z_56, q_57, z_58, q_59, z_60, q_61, z_62, f_63, hP1, hK1, hD1⟩ := hB
  rw [ht] at hP1
  have hK1 := va_K.moved hvm.symm hK1
  obtain ⟨hP, hD⟩ := va_join (wr := []) (w1 := [(q_1, .inr (6, [.ref q_2, .ref q_4, .ref q_29, .ref q_61, .int 0, .int 0, .int 0, .int 0])), (q_2, .inl (z_3, 20, .inl (fun _ => 0))), (q_4, .inr (2, [.ref q_5, .ref q_7, .ref q_9, .int 0])), (q_5, .inl (z_6, 64, .inl (fun _ => 0))), (q_7, .inl (z_8, 64, .inl (fun _ => 0))), (q_9, .inl (z_10, 256, .inl (fun _ => 0))), (q_11, .inr (2, [.ref q_12, .ref q_14, .ref q_16, .int 0])), (q_12, .inl (z_13, 64, .inl (fun _ => 0))), (q_14, .inl (z_15, 64, .inl (fun _ => 0))), (q_16, .inl (z_17, 256, .inl (fun _ => 0))), (q_18, .inr (4, [.ref q_19, .ref q_21, .ref q_23, .ref q_25, .ref q_27, .int 0, .int 0, .int 0, .int 1])), (q_19, .inl (z_20, 802, .inl (fun _ => 0))), (q_21, .inl (z_22, 401, .inl (fun _ => 0))), (q_23, .inl (z_24, 401, .inl (fun _ => 0))), (q_25, .inl (z_26, 401, .inl (fun _ => 0))), (q_27, .inl (z_28, 402, .inl (fun _ => 0))), (q_29, .inr (3, [.ref q_11, .ref q_18, .ref q_30, .ref q_36, .ref q_43, .ref q_55, .ref q_57, .ref q_59, .int 0, .int 0, .int 0, .int 0])), (q_30, .inr (5, [.ref q_11, .ref q_18, .ref q_33, .ref q_31])), (q_31, .inl (z_32, 128, .inl (fun _ => 0))), (q_33, .inl (z_34, 802, .inl g_35)), (q_36, .inr (1, [.ref q_11, .ref q_18, .ref q_37, .ref q_39, .ref q_41, .int 0, .int 0, .int 0])), (q_37, .inl (z_38, 401, .inl (fun _ => 0))), (q_39, .inl (z_40, 401, .inl (fun _ => 0))), (q_41, .inl (z_42, 401, .inl (fun _ => 0))), (q_43, .inr (0, [.ref q_11, .ref q_44])), (q_44, .inr (4, [.ref q_45, .ref q_47, .ref q_49, .ref q_51, .ref q_53, .int 0, .int 0, .int 0, .int 1])), (q_45, .inl (z_46, 802, .inl (fun _ => 0))), (q_47, .inl (z_48, 401, .inl (fun _ => 0))), (q_49, .inl (z_50, 401, .inl (fun _ => 0))), (q_51, .inl (z_52, 401, .inl (fun _ => 0))), (q_53, .inl (z_54, 402, .inl (fun _ => 0))), (q_55, .inl (z_56, 20, .inl (fun _ => 0))), (q_57, .inl (z_58, 802, .inl (fun _ => 0))), (q_59, .inl (z_60, 802, .inl (fun _ => 0))), (q_61, .inl (z_62, 401, .inl (fun _ => 0)))]) hP hD [0] [] rfl rfl (by decide) (by decide) hk1 hFc hP1 hD1
  have hK := hK.app (hK1.sub (tys' := [(z_3, .int), (z_6, .int), (z_8, .int), (z_10, .int), (z_13, .int), (z_15, .int), (z_17, .int), (z_20, .byte), (z_22, .int), (z_24, .int), (z_26, .int), (z_28, .int), (z_34, .int), (z_32, .int), (z_38, .boolean), (z_40, .int), (z_42, .int), (z_46, .byte), (z_48, .int), (z_50, .int), (z_52, .int), (z_54, .int), (z_56, .int), (z_58, .int), (z_60, .boolean), (z_62, .boolean)]) [0, 1, 2, 3, 4, 5, 6, 7, 8, 9, 10, 11, 12, 13, 14, 15, 16, 17, 18, 19, 20, 21, 22, 23, 24, 25] rfl)
  generalize H1 = H at hP hS ⊢
  have hP : va_P (dC, dI) vwCl [(q_1, .inr (6, [.ref q_2, .ref q_4, .ref q_29, .ref q_61, .int 0, .int 0, .int 0, .int 0])), (q_2, .inl (z_3, 20, .inl (fun _ => 0))), (q_4, .inr (2, [.ref q_5, .ref q_7, .ref q_9, .int 0])), (q_5, .inl (z_6, 64, .inl (fun _ => 0))), (q_7, .inl (z_8, 64, .inl (fun _ => 0))), (q_9, .inl (z_10, 256, .inl (fun _ => 0))), (q_11, .inr (2, [.ref q_12, .ref q_14, .ref q_16, .int 0])), (q_12, .inl (z_13, 64, .inl (fun _ => 0))), (q_14, .inl (z_15, 64, .inl (fun _ => 0))), (q_16, .inl (z_17, 256, .inl (fun _ => 0))), (q_18, .inr (4, [.ref q_19, .ref q_21, .ref q_23, .ref q_25, .ref q_27, .int 0, .int 0, .int 0, .int 1])), (q_19, .inl (z_20, 802, .inl (fun _ => 0))), (q_21, .inl (z_22, 401, .inl (fun _ => 0))), (q_23, .inl (z_24, 401, .inl (fun _ => 0))), (q_25, .inl (z_26, 401, .inl (fun _ => 0))), (q_27, .inl (z_28, 402, .inl (fun _ => 0))), (q_29, .inr (3, [.ref q_11, .ref q_18, .ref q_30, .ref q_36, .ref q_43, .ref q_55, .ref q_57, .ref q_59, .int 0, .int 0, .int 0, .int 0])), (q_30, .inr (5, [.ref q_11, .ref q_18, .ref q_33, .ref q_31])), (q_31, .inl (z_32, 128, .inl (fun _ => 0))), (q_33, .inl (z_34, 802, .inl g_35)), (q_36, .inr (1, [.ref q_11, .ref q_18, .ref q_37, .ref q_39, .ref q_41, .int 0, .int 0, .int 0])), (q_37, .inl (z_38, 401, .inl (fun _ => 0))), (q_39, .inl (z_40, 401, .inl (fun _ => 0))), (q_41, .inl (z_42, 401, .inl (fun _ => 0))), (q_43, .inr (0, [.ref q_11, .ref q_44])), (q_44, .inr (4, [.ref q_45, .ref q_47, .ref q_49, .ref q_51, .ref q_53, .int 0, .int 0, .int 0, .int 1])), (q_45, .inl (z_46, 802, .inl (fun _ => 0))), (q_47, .inl (z_48, 401, .inl (fun _ => 0))), (q_49, .inl (z_50, 401, .inl (fun _ => 0))), (q_51, .inl (z_52, 401, .inl (fun _ => 0))), (q_53, .inl (z_54, 402, .inl (fun _ => 0))), (q_55, .inl (z_56, 20, .inl (fun _ => 0))), (q_57, .inl (z_58, 802, .inl (fun _ => 0))), (q_59, .inl (z_60, 802, .inl (fun _ => 0))), (q_61, .inl (z_62, 401, .inl (fun _ => 0)))] H := hP
  have hD : va_D (fun q : Nat => s.heap.size ≤ q) [(q_1, .inr (6, [.ref q_2, .ref q_4, .ref q_29, .ref q_61, .int 0, .int 0, .int 0, .int 0])), (q_2, .inl (z_3, 20, .inl (fun _ => 0))), (q_4, .inr (2, [.ref q_5, .ref q_7, .ref q_9, .int 0])), (q_5, .inl (z_6, 64, .inl (fun _ => 0))), (q_7, .inl (z_8, 64, .inl (fun _ => 0))), (q_9, .inl (z_10, 256, .inl (fun _ => 0))), (q_11, .inr (2, [.ref q_12, .ref q_14, .ref q_16, .int 0])), (q_12, .inl (z_13, 64, .inl (fun _ => 0))), (q_14, .inl (z_15, 64, .inl (fun _ => 0))), (q_16, .inl (z_17, 256, .inl (fun _ => 0))), (q_18, .inr (4, [.ref q_19, .ref q_21, .ref q_23, .ref q_25, .ref q_27, .int 0, .int 0, .int 0, .int 1])), (q_19, .inl (z_20, 802, .inl (fun _ => 0))), (q_21, .inl (z_22, 401, .inl (fun _ => 0))), (q_23, .inl (z_24, 401, .inl (fun _ => 0))), (q_25, .inl (z_26, 401, .inl (fun _ => 0))), (q_27, .inl (z_28, 402, .inl (fun _ => 0))), (q_29, .inr (3, [.ref q_11, .ref q_18, .ref q_30, .ref q_36, .ref q_43, .ref q_55, .ref q_57, .ref q_59, .int 0, .int 0, .int 0, .int 0])), (q_30, .inr (5, [.ref q_11, .ref q_18, .ref q_33, .ref q_31])), (q_31, .inl (z_32, 128, .inl (fun _ => 0))), (q_33, .inl (z_34, 802, .inl g_35)), (q_36, .inr (1, [.ref q_11, .ref q_18, .ref q_37, .ref q_39, .ref q_41, .int 0, .int 0, .int 0])), (q_37, .inl (z_38, 401, .inl (fun _ => 0))), (q_39, .inl (z_40, 401, .inl (fun _ => 0))), (q_41, .inl (z_42, 401, .inl (fun _ => 0))), (q_43, .inr (0, [.ref q_11, .ref q_44])), (q_44, .inr (4, [.ref q_45, .ref q_47, .ref q_49, .ref q_51, .ref q_53, .int 0, .int 0, .int 0, .int 1])), (q_45, .inl (z_46, 802, .inl (fun _ => 0))), (q_47, .inl (z_48, 401, .inl (fun _ => 0))), (q_49, .inl (z_50, 401, .inl (fun _ => 0))), (q_51, .inl (z_52, 401, .inl (fun _ => 0))), (q_53, .inl (z_54, 402, .inl (fun _ => 0))), (q_55, .inl (z_56, 20, .inl (fun _ => 0))), (q_57, .inl (z_58, 802, .inl (fun _ => 0))), (q_59, .inl (z_60, 802, .inl (fun _ => 0))), (q_61, .inl (z_62, 401, .inl (fun _ => 0)))] := hD
  have hK : va_K (dC, dI) vwCl [(z_3, .int), (z_6, .int), (z_8, .int), (z_10, .int), (z_13, .int), (z_15, .int), (z_17, .int), (z_20, .byte), (z_22, .int), (z_24, .int), (z_26, .int), (z_28, .int), (z_34, .int), (z_32, .int), (z_38, .boolean), (z_40, .int), (z_42, .int), (z_46, .byte), (z_48, .int), (z_50, .int), (z_52, .int), (z_54, .int), (z_56, .int), (z_58, .int), (z_60, .boolean), (z_62, .boolean)] s := hK
  refine W.widen (k := 35) (n := 9820) (by decide) (by decide) ?_
  refine lv_astore_n (lv' := [(1, .ref q_1), (0, .ref b)]) hx hb d_Lw_law_7 rfl hl (by decide) rfl (fun ls hl => ?_)
  refine va_new (ci := 7) (fs := [.null, .null, .null, .null, .null, .int 0, .int 0, .int 0, .int 0, .int 0, .int 0, .null, .int 0, .null, .null]) (C := R_Md) (T := F_Md) (N := 15) hx hb hw in_Md t_Md t_Md_ok hown (hw (Cond.classLink "ClauseSearchLaw" 34 "ClauseSearchModel") k_597) (hw (Cond.instantiable "ClauseSearchModel" 15) k_598) (hw (Cond.initialized "ClauseSearchModel") k_37) hK hP hD hS hA rfl (fun j hj => by rcases (show j = 0 ∨ j = 1 ∨ j = 2 ∨ j = 3 ∨ j = 4 ∨ j = 5 ∨ j = 6 ∨ j = 7 ∨ j = 8 ∨ j = 9 ∨ j = 10 ∨ j = 11 ∨ j = 12 ∨ j = 13 ∨ j = 14 by omega) with rfl | rfl | rfl | rfl | rfl | rfl | rfl | rfl | rfl | rfl | rfl | rfl | rfl | rfl | rfl <;> rfl) (Nat.le_of_ble_eq_true rfl) (Nat.le_of_ble_eq_true rfl) d_Lw_law_8 (fun q_64 H hP hD hS => ?_)
  have hP : va_P (dC, dI) vwCl [(q_1, .inr (6, [.ref q_2, .ref q_4, .ref q_29, .ref q_61, .int 0, .int 0, .int 0, .int 0])), (q_2, .inl (z_3, 20, .inl (fun _ => 0))), (q_4, .inr (2, [.ref q_5, .ref q_7, .ref q_9, .int 0])), (q_5, .inl (z_6, 64, .inl (fun _ => 0))), (q_7, .inl (z_8, 64, .inl (fun _ => 0))), (q_9, .inl (z_10, 256, .inl (fun _ => 0))), (q_11, .inr (2, [.ref q_12, .ref q_14, .ref q_16, .int 0])), (q_12, .inl (z_13, 64, .inl (fun _ => 0))), (q_14, .inl (z_15, 64, .inl (fun _ => 0))), (q_16, .inl (z_17, 256, .inl (fun _ => 0))), (q_18, .inr (4, [.ref q_19, .ref q_21, .ref q_23, .ref q_25, .ref q_27, .int 0, .int 0, .int 0, .int 1])), (q_19, .inl (z_20, 802, .inl (fun _ => 0))), (q_21, .inl (z_22, 401, .inl (fun _ => 0))), (q_23, .inl (z_24, 401, .inl (fun _ => 0))), (q_25, .inl (z_26, 401, .inl (fun _ => 0))), (q_27, .inl (z_28, 402, .inl (fun _ => 0))), (q_29, .inr (3, [.ref q_11, .ref q_18, .ref q_30, .ref q_36, .ref q_43, .ref q_55, .ref q_57, .ref q_59, .int 0, .int 0, .int 0, .int 0])), (q_30, .inr (5, [.ref q_11, .ref q_18, .ref q_33, .ref q_31])), (q_31, .inl (z_32, 128, .inl (fun _ => 0))), (q_33, .inl (z_34, 802, .inl g_35)), (q_36, .inr (1, [.ref q_11, .ref q_18, .ref q_37, .ref q_39, .ref q_41, .int 0, .int 0, .int 0])), (q_37, .inl (z_38, 401, .inl (fun _ => 0))), (q_39, .inl (z_40, 401, .inl (fun _ => 0))), (q_41, .inl (z_42, 401, .inl (fun _ => 0))), (q_43, .inr (0, [.ref q_11, .ref q_44])), (q_44, .inr (4, [.ref q_45, .ref q_47, .ref q_49, .ref q_51, .ref q_53, .int 0, .int 0, .int 0, .int 1])), (q_45, .inl (z_46, 802, .inl (fun _ => 0))), (q_47, .inl (z_48, 401, .inl (fun _ => 0))), (q_49, .inl (z_50, 401, .inl (fun _ => 0))), (q_51, .inl (z_52, 401, .inl (fun _ => 0))), (q_53, .inl (z_54, 402, .inl (fun _ => 0))), (q_55, .inl (z_56, 20, .inl (fun _ => 0))), (q_57, .inl (z_58, 802, .inl (fun _ => 0))), (q_59, .inl (z_60, 802, .inl (fun _ => 0))), (q_61, .inl (z_62, 401, .inl (fun _ => 0))), (q_64, .inr (7, [.null, .null, .null, .null, .null, .int 0, .int 0, .int 0, .int 0, .int 0, .int 0, .null, .int 0, .null, .null]))] H := hP
  have hD : va_D (fun q : Nat => s.heap.size ≤ q) [(q_1, .inr (6, [.ref q_2, .ref q_4, .ref q_29, .ref q_61, .int 0, .int 0, .int 0, .int 0])), (q_2, .inl (z_3, 20, .inl (fun _ => 0))), (q_4, .inr (2, [.ref q_5, .ref q_7, .ref q_9, .int 0])), (q_5, .inl (z_6, 64, .inl (fun _ => 0))), (q_7, .inl (z_8, 64, .inl (fun _ => 0))), (q_9, .inl (z_10, 256, .inl (fun _ => 0))), (q_11, .inr (2, [.ref q_12, .ref q_14, .ref q_16, .int 0])), (q_12, .inl (z_13, 64, .inl (fun _ => 0))), (q_14, .inl (z_15, 64, .inl (fun _ => 0))), (q_16, .inl (z_17, 256, .inl (fun _ => 0))), (q_18, .inr (4, [.ref q_19, .ref q_21, .ref q_23, .ref q_25, .ref q_27, .int 0, .int 0, .int 0, .int 1])), (q_19, .inl (z_20, 802, .inl (fun _ => 0))), (q_21, .inl (z_22, 401, .inl (fun _ => 0))), (q_23, .inl (z_24, 401, .inl (fun _ => 0))), (q_25, .inl (z_26, 401, .inl (fun _ => 0))), (q_27, .inl (z_28, 402, .inl (fun _ => 0))), (q_29, .inr (3, [.ref q_11, .ref q_18, .ref q_30, .ref q_36, .ref q_43, .ref q_55, .ref q_57, .ref q_59, .int 0, .int 0, .int 0, .int 0])), (q_30, .inr (5, [.ref q_11, .ref q_18, .ref q_33, .ref q_31])), (q_31, .inl (z_32, 128, .inl (fun _ => 0))), (q_33, .inl (z_34, 802, .inl g_35)), (q_36, .inr (1, [.ref q_11, .ref q_18, .ref q_37, .ref q_39, .ref q_41, .int 0, .int 0, .int 0])), (q_37, .inl (z_38, 401, .inl (fun _ => 0))), (q_39, .inl (z_40, 401, .inl (fun _ => 0))), (q_41, .inl (z_42, 401, .inl (fun _ => 0))), (q_43, .inr (0, [.ref q_11, .ref q_44])), (q_44, .inr (4, [.ref q_45, .ref q_47, .ref q_49, .ref q_51, .ref q_53, .int 0, .int 0, .int 0, .int 1])), (q_45, .inl (z_46, 802, .inl (fun _ => 0))), (q_47, .inl (z_48, 401, .inl (fun _ => 0))), (q_49, .inl (z_50, 401, .inl (fun _ => 0))), (q_51, .inl (z_52, 401, .inl (fun _ => 0))), (q_53, .inl (z_54, 402, .inl (fun _ => 0))), (q_55, .inl (z_56, 20, .inl (fun _ => 0))), (q_57, .inl (z_58, 802, .inl (fun _ => 0))), (q_59, .inl (z_60, 802, .inl (fun _ => 0))), (q_61, .inl (z_62, 401, .inl (fun _ => 0))), (q_64, .inr (7, [.null, .null, .null, .null, .null, .int 0, .int 0, .int 0, .int 0, .int 0, .int 0, .null, .int 0, .null, .null]))] := hD
  refine W.widen (k := 36) (n := 9835) (by decide) (by decide) ?_
  refine lv_dup hx hb d_Lw_law_11 rfl ?_
  have hPc := hP.sub (ws' := [(q_64, .inr (7, [.null, .null, .null, .null, .null, .int 0, .int 0, .int 0, .int 0, .int 0, .int 0, .null, .int 0, .null, .null]))]) [35] rfl
  have hDc := hD.sub (ws' := [(q_64, .inr (7, [.null, .null, .null, .null, .null, .int 0, .int 0, .int 0, .int 0, .int 0, .int 0, .null, .int 0, .null, .null]))]) [35] (by decide) rfl
  have hKc := hK.sub (tys' := []) [] rfl
  have hFc := va_free (wc := [(q_64, .inr (7, [.null, .null, .null, .null, .null, .int 0, .int 0, .int 0, .int 0, .int 0, .int 0, .null, .int 0, .null, .null]))]) hD hS hA [35] rfl
  refine va_callv (va_runI (As := []) (rest := [.ref q_64]) ⟨hx, hb, hml, hown, hw⟩ (c_Md_init l dC dI q_64 H.size) (cb_I 0 hw k_601 k_37 k_599 k_600 rfl rfl rfl (by decide +kernel) ⟨Nat.le_of_ble_eq_true rfl, Nat.le_of_ble_eq_true rfl⟩) ⟨fun a U g mk q => by obtain ⟨q0, q1, qP, qK, qD⟩ := q; exact ⟨q0, q1, qP, va_K.moved (u := U) (U := U.calling g mk a) (Vm.Alike.refl U.vm) qK, qD⟩, fun U hU hW => ⟨rfl, by rw [hU], by rw [hU]; exact hPc, va_K.moved hW.alike hKc, hDc.weaken (fun _ _ _ _ => trivial)⟩⟩ rfl rfl hl.1 rfl (lv_room (Nat.le_of_ble_eq_true rfl)) d_Lw_law_12 ⟨Nat.le_of_ble_eq_true rfl, Nat.le_of_ble_eq_true rfl⟩) hS (fun q _ h => hFc q h) hFc (fun u t H1 locs ht hvm hw9 hB hz1 hk1 hS => ?_)
  obtain ⟨q_65, z_66, q_67, z_68, q_69, z_70, q_71, z_72, q_73, z_74, q_75, z_76, q_77, z_78, q_79, z_80, hP1, hK1, hD1⟩ := hB
  rw [ht] at hP1
  have hK1 := va_K.moved hvm.symm hK1
  obtain ⟨hP, hD⟩ := va_join (wr := [(q_1, .inr (6, [.ref q_2, .ref q_4, .ref q_29, .ref q_61, .int 0, .int 0, .int 0, .int 0])), (q_2, .inl (z_3, 20, .inl (fun _ => 0))), (q_4, .inr (2, [.ref q_5, .ref q_7, .ref q_9, .int 0])), (q_5, .inl (z_6, 64, .inl (fun _ => 0))), (q_7, .inl (z_8, 64, .inl (fun _ => 0))), (q_9, .inl (z_10, 256, .inl (fun _ => 0))), (q_11, .inr (2, [.ref q_12, .ref q_14, .ref q_16, .int 0])), (q_12, .inl (z_13, 64, .inl (fun _ => 0))), (q_14, .inl (z_15, 64, .inl (fun _ => 0))), (q_16, .inl (z_17, 256, .inl (fun _ => 0))), (q_18, .inr (4, [.ref q_19, .ref q_21, .ref q_23, .ref q_25, .ref q_27, .int 0, .int 0, .int 0, .int 1])), (q_19, .inl (z_20, 802, .inl (fun _ => 0))), (q_21, .inl (z_22, 401, .inl (fun _ => 0))), (q_23, .inl (z_24, 401, .inl (fun _ => 0))), (q_25, .inl (z_26, 401, .inl (fun _ => 0))), (q_27, .inl (z_28, 402, .inl (fun _ => 0))), (q_29, .inr (3, [.ref q_11, .ref q_18, .ref q_30, .ref q_36, .ref q_43, .ref q_55, .ref q_57, .ref q_59, .int 0, .int 0, .int 0, .int 0])), (q_30, .inr (5, [.ref q_11, .ref q_18, .ref q_33, .ref q_31])), (q_31, .inl (z_32, 128, .inl (fun _ => 0))), (q_33, .inl (z_34, 802, .inl g_35)), (q_36, .inr (1, [.ref q_11, .ref q_18, .ref q_37, .ref q_39, .ref q_41, .int 0, .int 0, .int 0])), (q_37, .inl (z_38, 401, .inl (fun _ => 0))), (q_39, .inl (z_40, 401, .inl (fun _ => 0))), (q_41, .inl (z_42, 401, .inl (fun _ => 0))), (q_43, .inr (0, [.ref q_11, .ref q_44])), (q_44, .inr (4, [.ref q_45, .ref q_47, .ref q_49, .ref q_51, .ref q_53, .int 0, .int 0, .int 0, .int 1])), (q_45, .inl (z_46, 802, .inl (fun _ => 0))), (q_47, .inl (z_48, 401, .inl (fun _ => 0))), (q_49, .inl (z_50, 401, .inl (fun _ => 0))), (q_51, .inl (z_52, 401, .inl (fun _ => 0))), (q_53, .inl (z_54, 402, .inl (fun _ => 0))), (q_55, .inl (z_56, 20, .inl (fun _ => 0))), (q_57, .inl (z_58, 802, .inl (fun _ => 0))), (q_59, .inl (z_60, 802, .inl (fun _ => 0))), (q_61, .inl (z_62, 401, .inl (fun _ => 0)))]) (w1 := [(q_64, .inr (7, [.ref q_65, .ref q_67, .ref q_69, .ref q_71, .ref q_73, .int 0, .int 0, .int 0, .int 0, .int 0, .int 0, .ref q_75, .int 0, .ref q_77, .ref q_79])), (q_65, .inl (z_66, 80000, .inl (fun _ => 0))), (q_67, .inl (z_68, 4001, .inl (fun _ => 0))), (q_69, .inl (z_70, 20, .inl (fun _ => 0))), (q_71, .inl (z_72, 20, .inl (fun _ => 0))), (q_73, .inl (z_74, 401, .inl (fun _ => 0))), (q_75, .inl (z_76, 401, .inl (fun _ => 0))), (q_77, .inl (z_78, 401, .inl (fun _ => 0))), (q_79, .inl (z_80, 401, .inl (fun _ => 0)))]) hP hD [35] [0, 1, 2, 3, 4, 5, 6, 7, 8, 9, 10, 11, 12, 13, 14, 15, 16, 17, 18, 19, 20, 21, 22, 23, 24, 25, 26, 27, 28, 29, 30, 31, 32, 33, 34] rfl rfl (by decide) (by decide) hk1 hFc hP1 hD1
  have hK := hK.app (hK1.sub (tys' := [(z_66, .int), (z_68, .int), (z_70, .int), (z_72, .int), (z_74, .int), (z_76, .int), (z_78, .int), (z_80, .int)]) [0, 1, 2, 3, 4, 5, 6, 7] rfl)
  generalize H1 = H at hP hS ⊢
  have hP : va_P (dC, dI) vwCl [(q_1, .inr (6, [.ref q_2, .ref q_4, .ref q_29, .ref q_61, .int 0, .int 0, .int 0, .int 0])), (q_2, .inl (z_3, 20, .inl (fun _ => 0))), (q_4, .inr (2, [.ref q_5, .ref q_7, .ref q_9, .int 0])), (q_5, .inl (z_6, 64, .inl (fun _ => 0))), (q_7, .inl (z_8, 64, .inl (fun _ => 0))), (q_9, .inl (z_10, 256, .inl (fun _ => 0))), (q_11, .inr (2, [.ref q_12, .ref q_14, .ref q_16, .int 0])), (q_12, .inl (z_13, 64, .inl (fun _ => 0))), (q_14, .inl (z_15, 64, .inl (fun _ => 0))), (q_16, .inl (z_17, 256, .inl (fun _ => 0))), (q_18, .inr (4, [.ref q_19, .ref q_21, .ref q_23, .ref q_25, .ref q_27, .int 0, .int 0, .int 0, .int 1])), (q_19, .inl (z_20, 802, .inl (fun _ => 0))), (q_21, .inl (z_22, 401, .inl (fun _ => 0))), (q_23, .inl (z_24, 401, .inl (fun _ => 0))), (q_25, .inl (z_26, 401, .inl (fun _ => 0))), (q_27, .inl (z_28, 402, .inl (fun _ => 0))), (q_29, .inr (3, [.ref q_11, .ref q_18, .ref q_30, .ref q_36, .ref q_43, .ref q_55, .ref q_57, .ref q_59, .int 0, .int 0, .int 0, .int 0])), (q_30, .inr (5, [.ref q_11, .ref q_18, .ref q_33, .ref q_31])), (q_31, .inl (z_32, 128, .inl (fun _ => 0))), (q_33, .inl (z_34, 802, .inl g_35)), (q_36, .inr (1, [.ref q_11, .ref q_18, .ref q_37, .ref q_39, .ref q_41, .int 0, .int 0, .int 0])), (q_37, .inl (z_38, 401, .inl (fun _ => 0))), (q_39, .inl (z_40, 401, .inl (fun _ => 0))), (q_41, .inl (z_42, 401, .inl (fun _ => 0))), (q_43, .inr (0, [.ref q_11, .ref q_44])), (q_44, .inr (4, [.ref q_45, .ref q_47, .ref q_49, .ref q_51, .ref q_53, .int 0, .int 0, .int 0, .int 1])), (q_45, .inl (z_46, 802, .inl (fun _ => 0))), (q_47, .inl (z_48, 401, .inl (fun _ => 0))), (q_49, .inl (z_50, 401, .inl (fun _ => 0))), (q_51, .inl (z_52, 401, .inl (fun _ => 0))), (q_53, .inl (z_54, 402, .inl (fun _ => 0))), (q_55, .inl (z_56, 20, .inl (fun _ => 0))), (q_57, .inl (z_58, 802, .inl (fun _ => 0))), (q_59, .inl (z_60, 802, .inl (fun _ => 0))), (q_61, .inl (z_62, 401, .inl (fun _ => 0))), (q_64, .inr (7, [.ref q_65, .ref q_67, .ref q_69, .ref q_71, .ref q_73, .int 0, .int 0, .int 0, .int 0, .int 0, .int 0, .ref q_75, .int 0, .ref q_77, .ref q_79])), (q_65, .inl (z_66, 80000, .inl (fun _ => 0))), (q_67, .inl (z_68, 4001, .inl (fun _ => 0))), (q_69, .inl (z_70, 20, .inl (fun _ => 0))), (q_71, .inl (z_72, 20, .inl (fun _ => 0))), (q_73, .inl (z_74, 401, .inl (fun _ => 0))), (q_75, .inl (z_76, 401, .inl (fun _ => 0))), (q_77, .inl (z_78, 401, .inl (fun _ => 0))), (q_79, .inl (z_80, 401, .inl (fun _ => 0)))] H := hP
  have hD : va_D (fun q : Nat => s.heap.size ≤ q) [(q_1, .inr (6, [.ref q_2, .ref q_4, .ref q_29, .ref q_61, .int 0, .int 0, .int 0, .int 0])), (q_2, .inl (z_3, 20, .inl (fun _ => 0))), (q_4, .inr (2, [.ref q_5, .ref q_7, .ref q_9, .int 0])), (q_5, .inl (z_6, 64, .inl (fun _ => 0))), (q_7, .inl (z_8, 64, .inl (fun _ => 0))), (q_9, .inl (z_10, 256, .inl (fun _ => 0))), (q_11, .inr (2, [.ref q_12, .ref q_14, .ref q_16, .int 0])), (q_12, .inl (z_13, 64, .inl (fun _ => 0))), (q_14, .inl (z_15, 64, .inl (fun _ => 0))), (q_16, .inl (z_17, 256, .inl (fun _ => 0))), (q_18, .inr (4, [.ref q_19, .ref q_21, .ref q_23, .ref q_25, .ref q_27, .int 0, .int 0, .int 0, .int 1])), (q_19, .inl (z_20, 802, .inl (fun _ => 0))), (q_21, .inl (z_22, 401, .inl (fun _ => 0))), (q_23, .inl (z_24, 401, .inl (fun _ => 0))), (q_25, .inl (z_26, 401, .inl (fun _ => 0))), (q_27, .inl (z_28, 402, .inl (fun _ => 0))), (q_29, .inr (3, [.ref q_11, .ref q_18, .ref q_30, .ref q_36, .ref q_43, .ref q_55, .ref q_57, .ref q_59, .int 0, .int 0, .int 0, .int 0])), (q_30, .inr (5, [.ref q_11, .ref q_18, .ref q_33, .ref q_31])), (q_31, .inl (z_32, 128, .inl (fun _ => 0))), (q_33, .inl (z_34, 802, .inl g_35)), (q_36, .inr (1, [.ref q_11, .ref q_18, .ref q_37, .ref q_39, .ref q_41, .int 0, .int 0, .int 0])), (q_37, .inl (z_38, 401, .inl (fun _ => 0))), (q_39, .inl (z_40, 401, .inl (fun _ => 0))), (q_41, .inl (z_42, 401, .inl (fun _ => 0))), (q_43, .inr (0, [.ref q_11, .ref q_44])), (q_44, .inr (4, [.ref q_45, .ref q_47, .ref q_49, .ref q_51, .ref q_53, .int 0, .int 0, .int 0, .int 1])), (q_45, .inl (z_46, 802, .inl (fun _ => 0))), (q_47, .inl (z_48, 401, .inl (fun _ => 0))), (q_49, .inl (z_50, 401, .inl (fun _ => 0))), (q_51, .inl (z_52, 401, .inl (fun _ => 0))), (q_53, .inl (z_54, 402, .inl (fun _ => 0))), (q_55, .inl (z_56, 20, .inl (fun _ => 0))), (q_57, .inl (z_58, 802, .inl (fun _ => 0))), (q_59, .inl (z_60, 802, .inl (fun _ => 0))), (q_61, .inl (z_62, 401, .inl (fun _ => 0))), (q_64, .inr (7, [.ref q_65, .ref q_67, .ref q_69, .ref q_71, .ref q_73, .int 0, .int 0, .int 0, .int 0, .int 0, .int 0, .ref q_75, .int 0, .ref q_77, .ref q_79])), (q_65, .inl (z_66, 80000, .inl (fun _ => 0))), (q_67, .inl (z_68, 4001, .inl (fun _ => 0))), (q_69, .inl (z_70, 20, .inl (fun _ => 0))), (q_71, .inl (z_72, 20, .inl (fun _ => 0))), (q_73, .inl (z_74, 401, .inl (fun _ => 0))), (q_75, .inl (z_76, 401, .inl (fun _ => 0))), (q_77, .inl (z_78, 401, .inl (fun _ => 0))), (q_79, .inl (z_80, 401, .inl (fun _ => 0)))] := hD
  have hK : va_K (dC, dI) vwCl [(z_3, .int), (z_6, .int), (z_8, .int), (z_10, .int), (z_13, .int), (z_15, .int), (z_17, .int), (z_20, .byte), (z_22, .int), (z_24, .int), (z_26, .int), (z_28, .int), (z_34, .int), (z_32, .int), (z_38, .boolean), (z_40, .int), (z_42, .int), (z_46, .byte), (z_48, .int), (z_50, .int), (z_52, .int), (z_54, .int), (z_56, .int), (z_58, .int), (z_60, .boolean), (z_62, .boolean), (z_66, .int), (z_68, .int), (z_70, .int), (z_72, .int), (z_74, .int), (z_76, .int), (z_78, .int), (z_80, .int)] s := hK
  refine W.widen (k := 44) (n := 95480) (by decide) (by decide) ?_
  refine lv_astore_n (lv' := [(2, .ref q_64), (1, .ref q_1), (0, .ref b)]) hx hb d_Lw_law_15 rfl hl (by decide) rfl (fun ls hl => ?_)
  refine lv_iconst (v := 1) hx hb d_Lw_law_16 (by decide) ?_
  refine va_newa (atype := .long) hx hb (hw (Cond.arrayClass .long) k_706) (ty := .long) rfl hK hP hD hS hA (n := 1) (N' := 1) (a0 := (1, .inr (.inl (fun _ => 0)))) (fun _ => rfl) (by decide) (by decide) (by decide) (Nat.le_of_ble_eq_true rfl) (Nat.le_of_ble_eq_true rfl) d_Lw_law_17 (fun q_81 z_82 H hK hP hD hS => ?_)
  have hP : va_P (dC, dI) vwCl [(q_1, .inr (6, [.ref q_2, .ref q_4, .ref q_29, .ref q_61, .int 0, .int 0, .int 0, .int 0])), (q_2, .inl (z_3, 20, .inl (fun _ => 0))), (q_4, .inr (2, [.ref q_5, .ref q_7, .ref q_9, .int 0])), (q_5, .inl (z_6, 64, .inl (fun _ => 0))), (q_7, .inl (z_8, 64, .inl (fun _ => 0))), (q_9, .inl (z_10, 256, .inl (fun _ => 0))), (q_11, .inr (2, [.ref q_12, .ref q_14, .ref q_16, .int 0])), (q_12, .inl (z_13, 64, .inl (fun _ => 0))), (q_14, .inl (z_15, 64, .inl (fun _ => 0))), (q_16, .inl (z_17, 256, .inl (fun _ => 0))), (q_18, .inr (4, [.ref q_19, .ref q_21, .ref q_23, .ref q_25, .ref q_27, .int 0, .int 0, .int 0, .int 1])), (q_19, .inl (z_20, 802, .inl (fun _ => 0))), (q_21, .inl (z_22, 401, .inl (fun _ => 0))), (q_23, .inl (z_24, 401, .inl (fun _ => 0))), (q_25, .inl (z_26, 401, .inl (fun _ => 0))), (q_27, .inl (z_28, 402, .inl (fun _ => 0))), (q_29, .inr (3, [.ref q_11, .ref q_18, .ref q_30, .ref q_36, .ref q_43, .ref q_55, .ref q_57, .ref q_59, .int 0, .int 0, .int 0, .int 0])), (q_30, .inr (5, [.ref q_11, .ref q_18, .ref q_33, .ref q_31])), (q_31, .inl (z_32, 128, .inl (fun _ => 0))), (q_33, .inl (z_34, 802, .inl g_35)), (q_36, .inr (1, [.ref q_11, .ref q_18, .ref q_37, .ref q_39, .ref q_41, .int 0, .int 0, .int 0])), (q_37, .inl (z_38, 401, .inl (fun _ => 0))), (q_39, .inl (z_40, 401, .inl (fun _ => 0))), (q_41, .inl (z_42, 401, .inl (fun _ => 0))), (q_43, .inr (0, [.ref q_11, .ref q_44])), (q_44, .inr (4, [.ref q_45, .ref q_47, .ref q_49, .ref q_51, .ref q_53, .int 0, .int 0, .int 0, .int 1])), (q_45, .inl (z_46, 802, .inl (fun _ => 0))), (q_47, .inl (z_48, 401, .inl (fun _ => 0))), (q_49, .inl (z_50, 401, .inl (fun _ => 0))), (q_51, .inl (z_52, 401, .inl (fun _ => 0))), (q_53, .inl (z_54, 402, .inl (fun _ => 0))), (q_55, .inl (z_56, 20, .inl (fun _ => 0))), (q_57, .inl (z_58, 802, .inl (fun _ => 0))), (q_59, .inl (z_60, 802, .inl (fun _ => 0))), (q_61, .inl (z_62, 401, .inl (fun _ => 0))), (q_64, .inr (7, [.ref q_65, .ref q_67, .ref q_69, .ref q_71, .ref q_73, .int 0, .int 0, .int 0, .int 0, .int 0, .int 0, .ref q_75, .int 0, .ref q_77, .ref q_79])), (q_65, .inl (z_66, 80000, .inl (fun _ => 0))), (q_67, .inl (z_68, 4001, .inl (fun _ => 0))), (q_69, .inl (z_70, 20, .inl (fun _ => 0))), (q_71, .inl (z_72, 20, .inl (fun _ => 0))), (q_73, .inl (z_74, 401, .inl (fun _ => 0))), (q_75, .inl (z_76, 401, .inl (fun _ => 0))), (q_77, .inl (z_78, 401, .inl (fun _ => 0))), (q_79, .inl (z_80, 401, .inl (fun _ => 0))), (q_81, .inl (z_82, 1, .inr (.inl (fun _ => 0))))] H := hP
  have hD : va_D (fun q : Nat => s.heap.size ≤ q) [(q_1, .inr (6, [.ref q_2, .ref q_4, .ref q_29, .ref q_61, .int 0, .int 0, .int 0, .int 0])), (q_2, .inl (z_3, 20, .inl (fun _ => 0))), (q_4, .inr (2, [.ref q_5, .ref q_7, .ref q_9, .int 0])), (q_5, .inl (z_6, 64, .inl (fun _ => 0))), (q_7, .inl (z_8, 64, .inl (fun _ => 0))), (q_9, .inl (z_10, 256, .inl (fun _ => 0))), (q_11, .inr (2, [.ref q_12, .ref q_14, .ref q_16, .int 0])), (q_12, .inl (z_13, 64, .inl (fun _ => 0))), (q_14, .inl (z_15, 64, .inl (fun _ => 0))), (q_16, .inl (z_17, 256, .inl (fun _ => 0))), (q_18, .inr (4, [.ref q_19, .ref q_21, .ref q_23, .ref q_25, .ref q_27, .int 0, .int 0, .int 0, .int 1])), (q_19, .inl (z_20, 802, .inl (fun _ => 0))), (q_21, .inl (z_22, 401, .inl (fun _ => 0))), (q_23, .inl (z_24, 401, .inl (fun _ => 0))), (q_25, .inl (z_26, 401, .inl (fun _ => 0))), (q_27, .inl (z_28, 402, .inl (fun _ => 0))), (q_29, .inr (3, [.ref q_11, .ref q_18, .ref q_30, .ref q_36, .ref q_43, .ref q_55, .ref q_57, .ref q_59, .int 0, .int 0, .int 0, .int 0])), (q_30, .inr (5, [.ref q_11, .ref q_18, .ref q_33, .ref q_31])), (q_31, .inl (z_32, 128, .inl (fun _ => 0))), (q_33, .inl (z_34, 802, .inl g_35)), (q_36, .inr (1, [.ref q_11, .ref q_18, .ref q_37, .ref q_39, .ref q_41, .int 0, .int 0, .int 0])), (q_37, .inl (z_38, 401, .inl (fun _ => 0))), (q_39, .inl (z_40, 401, .inl (fun _ => 0))), (q_41, .inl (z_42, 401, .inl (fun _ => 0))), (q_43, .inr (0, [.ref q_11, .ref q_44])), (q_44, .inr (4, [.ref q_45, .ref q_47, .ref q_49, .ref q_51, .ref q_53, .int 0, .int 0, .int 0, .int 1])), (q_45, .inl (z_46, 802, .inl (fun _ => 0))), (q_47, .inl (z_48, 401, .inl (fun _ => 0))), (q_49, .inl (z_50, 401, .inl (fun _ => 0))), (q_51, .inl (z_52, 401, .inl (fun _ => 0))), (q_53, .inl (z_54, 402, .inl (fun _ => 0))), (q_55, .inl (z_56, 20, .inl (fun _ => 0))), (q_57, .inl (z_58, 802, .inl (fun _ => 0))), (q_59, .inl (z_60, 802, .inl (fun _ => 0))), (q_61, .inl (z_62, 401, .inl (fun _ => 0))), (q_64, .inr (7, [.ref q_65, .ref q_67, .ref q_69, .ref q_71, .ref q_73, .int 0, .int 0, .int 0, .int 0, .int 0, .int 0, .ref q_75, .int 0, .ref q_77, .ref q_79])), (q_65, .inl (z_66, 80000, .inl (fun _ => 0))), (q_67, .inl (z_68, 4001, .inl (fun _ => 0))), (q_69, .inl (z_70, 20, .inl (fun _ => 0))), (q_71, .inl (z_72, 20, .inl (fun _ => 0))), (q_73, .inl (z_74, 401, .inl (fun _ => 0))), (q_75, .inl (z_76, 401, .inl (fun _ => 0))), (q_77, .inl (z_78, 401, .inl (fun _ => 0))), (q_79, .inl (z_80, 401, .inl (fun _ => 0))), (q_81, .inl (z_82, 1, .inr (.inl (fun _ => 0))))] := hD
  have hK : va_K (dC, dI) vwCl [(z_3, .int), (z_6, .int), (z_8, .int), (z_10, .int), (z_13, .int), (z_15, .int), (z_17, .int), (z_20, .byte), (z_22, .int), (z_24, .int), (z_26, .int), (z_28, .int), (z_34, .int), (z_32, .int), (z_38, .boolean), (z_40, .int), (z_42, .int), (z_46, .byte), (z_48, .int), (z_50, .int), (z_52, .int), (z_54, .int), (z_56, .int), (z_58, .int), (z_60, .boolean), (z_62, .boolean), (z_66, .int), (z_68, .int), (z_70, .int), (z_72, .int), (z_74, .int), (z_76, .int), (z_78, .int), (z_80, .int), (z_82, .long)] s := hK
  refine W.widen (k := 45) (n := 95481) (by decide) (by decide) ?_
  refine lv_astore_n (lv' := [(3, .ref q_81), (2, .ref q_64), (1, .ref q_1), (0, .ref b)]) hx hb d_Lw_law_19 rfl hl (by decide) rfl (fun ls hl => ?_)
  refine lv_iconst (v := 0) hx hb d_Lw_law_20 (by decide) ?_
  refine lv_istore (lv' := [(4, .int 0), (3, .ref q_81), (2, .ref q_64), (1, .ref q_1), (0, .ref b)]) hx hb d_Lw_law_21 hl (by decide) rfl (fun ls hl => ?_)
  have hl : lv_has ls 7 [(0, .ref b), (1, .ref q_1), (2, .ref q_64), (3, .ref q_81), (4, .int 0)] := lv_sub hl [4, 3, 2, 1, 0] rfl
  have hP := hP.sub (ws' := [(q_1, .inr (6, [.ref q_2, .ref q_4, .ref q_29, .ref q_61, .int 0, .int 0, .int 0, .int 0])), (q_4, .inr (2, [.ref q_5, .ref q_7, .ref q_9, .int 0])), (q_29, .inr (3, [.ref q_11, .ref q_18, .ref q_30, .ref q_36, .ref q_43, .ref q_55, .ref q_57, .ref q_59, .int 0, .int 0, .int 0, .int 0])), (q_18, .inr (4, [.ref q_19, .ref q_21, .ref q_23, .ref q_25, .ref q_27, .int 0, .int 0, .int 0, .int 1])), (q_30, .inr (5, [.ref q_11, .ref q_18, .ref q_33, .ref q_31])), (q_64, .inr (7, [.ref q_65, .ref q_67, .ref q_69, .ref q_71, .ref q_73, .int 0, .int 0, .int 0, .int 0, .int 0, .int 0, .ref q_75, .int 0, .ref q_77, .ref q_79])), (q_73, .inl (z_74, 401, .inl (fun _ => 0))), (q_81, .inl (z_82, 1, .inr (.inl (fun _ => 0))))]) [0, 2, 16, 10, 17, 35, 40, 44] rfl
  have hD := hD.sub (ws' := [(q_1, .inr (6, [.ref q_2, .ref q_4, .ref q_29, .ref q_61, .int 0, .int 0, .int 0, .int 0])), (q_4, .inr (2, [.ref q_5, .ref q_7, .ref q_9, .int 0])), (q_29, .inr (3, [.ref q_11, .ref q_18, .ref q_30, .ref q_36, .ref q_43, .ref q_55, .ref q_57, .ref q_59, .int 0, .int 0, .int 0, .int 0])), (q_18, .inr (4, [.ref q_19, .ref q_21, .ref q_23, .ref q_25, .ref q_27, .int 0, .int 0, .int 0, .int 1])), (q_30, .inr (5, [.ref q_11, .ref q_18, .ref q_33, .ref q_31])), (q_64, .inr (7, [.ref q_65, .ref q_67, .ref q_69, .ref q_71, .ref q_73, .int 0, .int 0, .int 0, .int 0, .int 0, .int 0, .ref q_75, .int 0, .ref q_77, .ref q_79])), (q_73, .inl (z_74, 401, .inl (fun _ => 0))), (q_81, .inl (z_82, 1, .inr (.inl (fun _ => 0))))]) [0, 2, 16, 10, 17, 35, 40, 44] (by decide) rfl
  have hK := hK.sub (tys' := [(z_74, .int), (z_82, .long)]) [30, 34] rfl
  obtain hL0 | hL0 | hL0 : L = 0 ∨ L = 1 ∨ L = 2 := by omega
  · subst hL0; exact lw_exit C0 (by decide) (by decide) _ _ ls 0 (by decide) hS (lv_sub hl [0, 4] rfl)
  · subst hL0; exact lw_exit C0 (by decide) (by decide) _ _ ls 0 (by decide) hS (lv_sub hl [0, 4] rfl)
  · subst hL0
    refine lv_iload hx hb d_Lw_law_23 (lv_at hl 4 rfl) ?_
    refine lv_aload_n hx hb d_Lw_law_25 rfl (lv_at hl 0 rfl) ?_
    refine va_slen hx hb hX hbl hbA hS d_Lw_law_26 ?_
    refine lv_iconst (v := 2) hx hb d_Lw_law_27 (by decide) ?_
    refine lv_isub hx hb d_Lw_law_28 ?_
    refine lv_icmp_gt (tgt := 370) hx hb d_Lw_law_29 (by decide) (fun c_29 => absurd c_29 (by decide)) (fun c_29 => ?_)
    refine lv_aload_n hx hb d_Lw_law_32 rfl (lv_at hl 0 rfl) ?_
    refine lv_iload hx hb d_Lw_law_33 (lv_at hl 4 rfl) ?_
    refine va_sld hx hb hX hbl hbA hS (by unfold vp_in; decide) d_Lw_law_35 ?_
    refine lv_bipush (v := 7) hx hb d_Lw_law_36 (by decide) ?_
    refine lv_iand hx hb d_Lw_law_38 ?_
    refine lv_topi (fun sw esw => ?_)
    obtain ⟨j9, hj9, ej9⟩ := pk_andE (xs (0 : Int32).toNatClampNeg) (m := 7) 3 (by decide)
    rw [ej9] at esw
    obtain hj | hj | hj | hj | hj | hj | hj | hj : j9 = 0 ∨ j9 = 1 ∨ j9 = 2 ∨ j9 = 3 ∨ j9 = 4 ∨ j9 = 5 ∨ j9 = 6 ∨ j9 = 7 := by omega
    · subst hj; subst esw; refine lv_tableIn (tgt := 76) hx hb d_Lw_law_39 (by decide) (by decide) (off := 37) (by decide) (by decide) ?_
      exact lw_c0 hfl C0 hZ0 q_1 q_2 q_4 q_29 q_61 q_5 q_7 q_9 q_11 q_18 q_30 q_36 q_43 q_55 q_57 q_59 q_19 q_21 q_23 q_25 q_27 q_33 q_31 q_64 q_65 q_67 q_69 q_71 q_73 q_75 q_77 q_79 q_81 z_74 z_82 (fun _ => 0) (fun _ => 0) _ _ ls hK hP hD hS hl
    · subst hj; subst esw; refine lv_tableIn (tgt := 132) hx hb d_Lw_law_39 (by decide) (by decide) (off := 93) (by decide) (by decide) ?_
      exact lw_c1 hfl C0 hZ0 q_1 q_2 q_4 q_29 q_61 q_5 q_7 q_9 q_11 q_18 q_30 q_36 q_43 q_55 q_57 q_59 q_19 q_21 q_23 q_25 q_27 q_33 q_31 q_64 q_65 q_67 q_69 q_71 q_73 q_75 q_77 q_79 q_81 z_74 z_82 (fun _ => 0) (fun _ => 0) _ _ ls hK hP hD hS hl
    · subst hj; subst esw; refine lv_tableIn (tgt := 188) hx hb d_Lw_law_39 (by decide) (by decide) (off := 149) (by decide) (by decide) ?_
      exact lw_c2 hfl C0 hZ0 q_1 q_2 q_4 q_29 q_61 q_5 q_7 q_9 q_11 q_18 q_30 q_36 q_43 q_55 q_57 q_59 q_19 q_21 q_23 q_25 q_27 q_33 q_31 q_64 q_65 q_67 q_69 q_71 q_73 q_75 q_77 q_79 q_81 z_74 z_82 (fun _ => 0) (fun _ => 0) _ _ ls hK hP hD hS hl
    · subst hj; subst esw; refine lv_tableIn (tgt := 232) hx hb d_Lw_law_39 (by decide) (by decide) (off := 193) (by decide) (by decide) ?_
      exact lw_c3 hfl C0 hZ0 q_1 q_2 q_4 q_29 q_61 q_5 q_7 q_9 q_11 q_18 q_30 q_36 q_43 q_55 q_57 q_59 q_19 q_21 q_23 q_25 q_27 q_33 q_31 q_64 q_65 q_67 q_69 q_71 q_73 q_75 q_77 q_79 q_81 z_74 z_82 (fun _ => 0) (fun _ => 0) _ _ ls hK hP hD hS hl
    · subst hj; subst esw; refine lv_tableIn (tgt := 245) hx hb d_Lw_law_39 (by decide) (by decide) (off := 206) (by decide) (by decide) ?_
      exact lw_c4 hfl C0 hZ0 q_1 q_2 q_4 q_29 q_61 q_5 q_7 q_9 q_11 q_18 q_30 q_36 q_43 q_55 q_57 q_59 q_19 q_21 q_23 q_25 q_27 q_33 q_31 q_64 q_65 q_67 q_69 q_71 q_73 q_75 q_77 q_79 q_81 z_74 z_82 (fun _ => 0) (fun _ => 0) _ _ ls hK hP hD hS hl
    · subst hj; subst esw; refine lv_tableIn (tgt := 308) hx hb d_Lw_law_39 (by decide) (by decide) (off := 269) (by decide) (by decide) ?_
      exact lw_c5 hfl C0 hZ0 q_1 q_2 q_4 q_29 q_61 q_5 q_7 q_9 q_11 q_18 q_30 q_36 q_43 q_55 q_57 q_59 q_19 q_21 q_23 q_25 q_27 q_33 q_31 q_64 q_65 q_67 q_69 q_71 q_73 q_75 q_77 q_79 q_81 z_74 z_82 (fun _ => 0) (fun _ => 0) _ _ ls hK hP hD hS hl
    · subst hj; subst esw; refine lv_tableOut (tgt := 364) hx hb d_Lw_law_39 (Or.inr (by decide)) (by decide) ?_
      exact lw_c6 hfl C0 hZ0 q_1 q_2 q_4 q_29 q_61 q_5 q_7 q_9 q_11 q_18 q_30 q_36 q_43 q_55 q_57 q_59 q_19 q_21 q_23 q_25 q_27 q_33 q_31 q_64 q_65 q_67 q_69 q_71 q_73 q_75 q_77 q_79 q_81 z_74 z_82 (fun _ => 0) (fun _ => 0) _ _ ls hK hP hD hS hl
    · subst hj; subst esw; refine lv_tableOut (tgt := 364) hx hb d_Lw_law_39 (Or.inr (by decide)) (by decide) ?_
      exact lw_c6 hfl C0 hZ0 q_1 q_2 q_4 q_29 q_61 q_5 q_7 q_9 q_11 q_18 q_30 q_36 q_43 q_55 q_57 q_59 q_19 q_21 q_23 q_25 q_27 q_33 q_31 q_64 q_65 q_67 q_69 q_71 q_73 q_75 q_77 q_79 q_81 z_74 z_82 (fun _ => 0) (fun _ => 0) _ _ ls hK hP hD hS hl
end
section
-- ===== YOUR PART ENDS =====
set_option maxHeartbeats 4000000 in
theorem lw_walk (l : Launch) (hfl : l.flags = pinnedFlags ++ [noTraceFlag]) (b : Addr) (xs : List Int32) : MetFree l x (headSpec (Jvm.Cond.code x code maxLocals ret :: tables_1) room_1) (lw_P b xs) (fun _ _ _ _ _ => True) lw_Q := by
  refine MetFree.of_bodyS (code := code) (maxLocals := maxLocals) (ret := ret) (by decide) ?_ ?_
  · intro args s m h hn
    obtain ⟨meth, c, h1, h2, h3, h4, h5, h6, -, -⟩ := Cond.code_spec hn (atoms_spec (ws := Jvm.Cond.code x code maxLocals ret :: tables_1) h _ List.mem_cons_self)
    exact ⟨meth, c, h1, h2, h3, h4, h5, h6⟩
  · intro p e s m args below meth c s₁ B hml0 hP _
    obtain ⟨rfl, hx, hbd, hgv⟩ := hP
    obtain ⟨scr, harrAt, hlist, hof, hsmall⟩ := hx
    obtain ⟨hcb, hkn, -, -⟩ := State.arrayAt?_spec harrAt
    have hown : s.vm.findClass R_law = some m.cls := findClass_of_methodNamed B.named
    have hts0 : ∀ c ∈ (Jvm.Cond.code x code maxLocals ret :: tables_1), c.before #[Value.ref b] s = true := atoms_spec (ws := Jvm.Cond.code x code maxLocals ret :: tables_1) B.pre
    have hts : ∀ w ∈ lw_tbl, w.before #[Value.ref b] s = true := k2_hts_sels lw_privs (fun w hw => hts0 w (List.mem_cons_of_mem _ hw)) lw_privs_ok
    have hml : c.maxLocals = 7 := B.maxLocals_eq (hts0 _ List.mem_cons_self)
    have X₀ : Stand p l e room_1 s m #[Value.ref b] below meth c s₁ [] 0 0 := Stand.of_body B
    have hh0 : s₁.heap = s.heap := by rw [B.state]; rfl
    have hsz : scr.slots.size = xs.length := by rw [← Array.length_toList, hlist, List.length_map]
    have hval : ∀ j : Nat, j < xs.length → scr.slots[j]? = some (.int (xs.getD j 0)) := fun j hj => by
      rw [← Array.getElem?_toList, hlist]
      simp [hj]
    have hbl : b < s.heap.size := (Array.getElem?_eq_some_iff.mp hcb).1
    have hX : va_X b xs.length (fun j => xs.getD j 0) s s.heap := ⟨scr, hcb, hof, hkn, hsz, hval⟩
    have K : W p l e room_1 s m #[Value.ref b] below meth c s₁.heap [] 0 0 (lw_Z below #[Value.ref b] s) (entryFrame m ([Value.ref b] : List Value).toArray 7) := by
      rw [hh0]
      exact whole_start l hfl hbd ⟨B.exec, B.bytes, B.returns, hml, hown, hts, hX, hbl, B.notSynchronized, hgv⟩
    obtain ⟨t, a1, o, b1, b2, b3⟩ := K s₁ rfl X₀
    exact ⟨t, o, a1, b1, b2, b3⟩
theorem lw_pre_spec {args : Array Value} {s : State} (h : (Jvm.Cond.and given_1 narrow_1).before args s = true) (hr : rest_1_c.before args s = true) : ∃ (b : Addr) (xs : List Int32), lw_P b xs args s := by
  have hs := flat_of_before _ h
  have hq := flat_of_before _ hr
  have hc : (Cond.count 1).before args s = true := hs _ (by decide +kernel)
  have harr : (Cond.arrayOf (.arg 0) .int).before args s = true := hs _ (by decide +kernel)
  have hle : (Cond.le (.length (.arg 0)) (.int 2)).before args s = true := hs _ (by decide +kernel)
  have hlen : (Cond.isInt (.length (.arg 0))).before args s = true := hq _ (by decide +kernel)
  have hall : (Cond.all (.arg 0) (.isInt (.elem (.arg 0) (.index 0)))).before args s = true := hq _ (by decide +kernel)
  obtain ⟨b, xs, hb, hx⟩ := State.ints_of_pre rfl harr hlen hall
  have hsm : xs.length < 2 ^ 31 := hx.choose_spec.2.2.2
  have hev : (Term.length (.arg 0)).eval args s none [] s = some (.int xs.length.toInt32) := hx.length_eval hb
  have hv := Cond.le_ints hev (show (Term.int 2).eval args s none [] s = some (.int 2) from rfl)
  have hd : xs.length.toInt32 ≤ 2 := by
    simpa [Cond.before, Cond.holds, hv] using hle
  have hN : xs.length ≤ 2 := (Int32.ofNat_le_ofNat hsm (by decide)).mp (show Int32.ofNat xs.length ≤ Int32.ofNat 2 from hd)
  exact ⟨b, xs, Cond.one_arg hc (show args[0]? = some (.ref b) from hb), hx, hN, h⟩
theorem lw_comes (l : Launch) (hfl : l.flags = pinnedFlags ++ [noTraceFlag]) : Comes l x (Jvm.Cond.code x code maxLocals ret :: tables_1) room_1 (fun tb e args s => Calls_1 tb e args s ∧ rest_1 tb e args s ∧ Pre_1 tb e args s)
    (fun _ _ args s o t => lw_Q args s o t) := by
  intro p e ha hc hk s m args below hf hfit hheap happ hpre
  obtain ⟨b, xs, hP⟩ := lw_pre_spec hpre.2.2 hpre.2.1
  obtain ⟨k, o, h1, h2, h3, hQ⟩ := lw_walk l hfl b xs p e ha hc hk s m args below hf ((Spec.applies_iff_loose hf).mp happ).1 hP trivial
  exact ⟨k, o, h1, h2, h3, hQ⟩
theorem lw_frame {s t : State} {o : Outcome} {args : Array Value} (h : Framed s o t [] 600002 7302231) :
    Framed s o t (fieldLocs frame_1_writes args s ++ arrayLocs frame_1_arrays args s ++ staticLocs frame_1_statics s) 600002 7302231 := h
theorem lw_limb (L : Cond) (hL : ∀ (args : Array Value) (s t : State), L.after args s (.returned (some (.int 1))) t = true) :
    ArmFor flags0 classFile x code maxLocals ret World_1 tables_1 room_1 Calls_1 rest_1 Pre_1
      (fun tb e a s o t => postC L tb e a s o t ∧ Framed s o t (fieldLocs frame_1_writes a s ++ arrayLocs frame_1_arrays a s ++ staticLocs frame_1_statics s) 600002 7302231) := by
  intro l hfl _ _ p e ha hc hk s m args below hf hfit hheap happ hpre
  obtain ⟨k, o, h1, h2, h3, rfl, hF⟩ := lw_comes l hfl p e ha hc hk s m args below hf hfit hheap happ hpre
  exact ⟨k, _, h1, h2, h3, hL args s _, lw_frame hF⟩
theorem i_vc : Claimed_1_1 ∧ Claimed_1_2 := ⟨lw_limb limb_1_1 (fun args s t => by simp [limb_1_1, Cond.after, Cond.holds, Cond.value]), lw_limb limb_1_2 (fun args s t => Cond.after_iff.mpr (by
  first | (rw [show limb_1_2 = Cond.eq .result (.int 1) from rfl, Cond.eq_ints (x := 1) (y := 1) rfl rfl]; simp; done) | (simp [limb_1_2, Cond.value, Term.eval]; done)))⟩
end
