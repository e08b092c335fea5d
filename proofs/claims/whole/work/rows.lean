section
-- ===== PART A: goes FIRST, ahead of the names: the tables' words, and 'selects' of the private methods out of them =====
/-- a private method of a class that the tables say can be made, by its rows of tables_1 -/
def lw_okq (q : MethodName × Nat) : Prop := (q.1.cls ≠ "java/lang/invoke/MethodHandle" ∧ q.1.cls ≠ "java/lang/invoke/VarHandle") ∧ Cond.instantiable q.1.cls q.2 ∈ tables_1 ∧ Cond.privateMethod q.1 ∈ tables_1 ∧ Cond.instanceMethod q.1 ∈ tables_1
theorem lw_p0 : lw_okq (⟨"java/lang/Throwable", "fillInStackTrace", "(I)Ljava/lang/Throwable;"⟩, 6) := ⟨⟨by decide +kernel, by decide +kernel⟩, List.mem_of_getElem? (i := 212) (by decide +kernel), List.mem_of_getElem? (i := 210) (by decide +kernel), List.mem_of_getElem? (i := 211) (by decide +kernel)⟩
theorem lw_p1 : lw_okq (⟨"ContextUnfolder$BlockReader", "readPlain", "(LContextUnfolder$Stream;LContextUnfolder$Output;)V"⟩, 4) := ⟨⟨by decide +kernel, by decide +kernel⟩, List.mem_of_getElem? (i := 45) (by decide +kernel), List.mem_of_getElem? (i := 330) (by decide +kernel), List.mem_of_getElem? (i := 331) (by decide +kernel)⟩
theorem lw_p2 : lw_okq (⟨"ContextUnfolder$BlockReader", "readCoded", "(LContextUnfolder$Stream;LContextUnfolder$Output;)V"⟩, 4) := ⟨⟨by decide +kernel, by decide +kernel⟩, List.mem_of_getElem? (i := 45) (by decide +kernel), List.mem_of_getElem? (i := 338) (by decide +kernel), List.mem_of_getElem? (i := 339) (by decide +kernel)⟩
theorem lw_p3 : lw_okq (⟨"ContextUnfolder$Code", "readSimple", "(LContextUnfolder$Stream;I)V"⟩, 3) := ⟨⟨by decide +kernel, by decide +kernel⟩, List.mem_of_getElem? (i := 57) (by decide +kernel), List.mem_of_getElem? (i := 358) (by decide +kernel), List.mem_of_getElem? (i := 359) (by decide +kernel)⟩
theorem lw_p4 : lw_okq (⟨"ContextUnfolder$Code", "readLengths", "(LContextUnfolder$Stream;I)V"⟩, 3) := ⟨⟨by decide +kernel, by decide +kernel⟩, List.mem_of_getElem? (i := 57) (by decide +kernel), List.mem_of_getElem? (i := 370) (by decide +kernel), List.mem_of_getElem? (i := 371) (by decide +kernel)⟩
theorem lw_p5 : lw_okq (⟨"ContextUnfolder$Code", "orderSymbols", "(I)V"⟩, 3) := ⟨⟨by decide +kernel, by decide +kernel⟩, List.mem_of_getElem? (i := 57) (by decide +kernel), List.mem_of_getElem? (i := 376) (by decide +kernel), List.mem_of_getElem? (i := 377) (by decide +kernel)⟩
theorem lw_p6 : lw_okq (⟨"ContextUnfolder$LetterReader", "readMap", "(LContextUnfolder$Stream;I)V"⟩, 9) := ⟨⟨by decide +kernel, by decide +kernel⟩, List.mem_of_getElem? (i := 51) (by decide +kernel), List.mem_of_getElem? (i := 384) (by decide +kernel), List.mem_of_getElem? (i := 385) (by decide +kernel)⟩
theorem lw_p7 : lw_okq (⟨"ContextUnfolder$LetterReader", "replacePlaces", "(I)V"⟩, 9) := ⟨⟨by decide +kernel, by decide +kernel⟩, List.mem_of_getElem? (i := 51) (by decide +kernel), List.mem_of_getElem? (i := 389) (by decide +kernel), List.mem_of_getElem? (i := 390) (by decide +kernel)⟩
theorem lw_p8 : lw_okq (⟨"ContextUnfolder$BlockReader", "readCommand", "(LContextUnfolder$Stream;LContextUnfolder$Output;)V"⟩, 4) := ⟨⟨by decide +kernel, by decide +kernel⟩, List.mem_of_getElem? (i := 45) (by decide +kernel), List.mem_of_getElem? (i := 395) (by decide +kernel), List.mem_of_getElem? (i := 396) (by decide +kernel)⟩
theorem lw_p9 : lw_okq (⟨"ContextUnfolder$BlockReader", "refuseBeyondEnd", "(LContextUnfolder$Output;I)V"⟩, 4) := ⟨⟨by decide +kernel, by decide +kernel⟩, List.mem_of_getElem? (i := 45) (by decide +kernel), List.mem_of_getElem? (i := 408) (by decide +kernel), List.mem_of_getElem? (i := 409) (by decide +kernel)⟩
theorem lw_p10 : lw_okq (⟨"ContextUnfolder$BlockReader", "readPiece", "(LContextUnfolder$Stream;LContextUnfolder$Output;I)V"⟩, 4) := ⟨⟨by decide +kernel, by decide +kernel⟩, List.mem_of_getElem? (i := 45) (by decide +kernel), List.mem_of_getElem? (i := 433) (by decide +kernel), List.mem_of_getElem? (i := 434) (by decide +kernel)⟩
theorem lw_p11 : lw_okq (⟨"ContextUnfolder$BlockReader", "addWord", "(LContextUnfolder$Output;II)V"⟩, 4) := ⟨⟨by decide +kernel, by decide +kernel⟩, List.mem_of_getElem? (i := 45) (by decide +kernel), List.mem_of_getElem? (i := 440) (by decide +kernel), List.mem_of_getElem? (i := 441) (by decide +kernel)⟩
theorem lw_p12 : lw_okq (⟨"ContextUnfolderModel", "first", "([I)V"⟩, 21) := ⟨⟨by decide +kernel, by decide +kernel⟩, List.mem_of_getElem? (i := 465) (by decide +kernel), List.mem_of_getElem? (i := 471) (by decide +kernel), List.mem_of_getElem? (i := 472) (by decide +kernel)⟩
theorem lw_p13 : lw_okq (⟨"ContextUnfolderModel", "noBit", "(I)Z"⟩, 21) := ⟨⟨by decide +kernel, by decide +kernel⟩, List.mem_of_getElem? (i := 465) (by decide +kernel), List.mem_of_getElem? (i := 551) (by decide +kernel), List.mem_of_getElem? (i := 552) (by decide +kernel)⟩
theorem lw_p14 : lw_okq (⟨"ContextUnfolderModel", "block", "()Z"⟩, 21) := ⟨⟨by decide +kernel, by decide +kernel⟩, List.mem_of_getElem? (i := 465) (by decide +kernel), List.mem_of_getElem? (i := 567) (by decide +kernel), List.mem_of_getElem? (i := 568) (by decide +kernel)⟩
theorem lw_p15 : lw_okq (⟨"ContextUnfolderModel", "number", "(I)I"⟩, 21) := ⟨⟨by decide +kernel, by decide +kernel⟩, List.mem_of_getElem? (i := 465) (by decide +kernel), List.mem_of_getElem? (i := 571) (by decide +kernel), List.mem_of_getElem? (i := 572) (by decide +kernel)⟩
def lw_privs_1 : List (MethodName × Nat) := [(⟨"java/lang/Throwable", "fillInStackTrace", "(I)Ljava/lang/Throwable;"⟩, 6), (⟨"ContextUnfolder$BlockReader", "readPlain", "(LContextUnfolder$Stream;LContextUnfolder$Output;)V"⟩, 4), (⟨"ContextUnfolder$BlockReader", "readCoded", "(LContextUnfolder$Stream;LContextUnfolder$Output;)V"⟩, 4), (⟨"ContextUnfolder$Code", "readSimple", "(LContextUnfolder$Stream;I)V"⟩, 3), (⟨"ContextUnfolder$Code", "readLengths", "(LContextUnfolder$Stream;I)V"⟩, 3), (⟨"ContextUnfolder$Code", "orderSymbols", "(I)V"⟩, 3), (⟨"ContextUnfolder$LetterReader", "readMap", "(LContextUnfolder$Stream;I)V"⟩, 9), (⟨"ContextUnfolder$LetterReader", "replacePlaces", "(I)V"⟩, 9), (⟨"ContextUnfolder$BlockReader", "readCommand", "(LContextUnfolder$Stream;LContextUnfolder$Output;)V"⟩, 4), (⟨"ContextUnfolder$BlockReader", "refuseBeyondEnd", "(LContextUnfolder$Output;I)V"⟩, 4), (⟨"ContextUnfolder$BlockReader", "readPiece", "(LContextUnfolder$Stream;LContextUnfolder$Output;I)V"⟩, 4), (⟨"ContextUnfolder$BlockReader", "addWord", "(LContextUnfolder$Output;II)V"⟩, 4), (⟨"ContextUnfolderModel", "first", "([I)V"⟩, 21), (⟨"ContextUnfolderModel", "noBit", "(I)Z"⟩, 21), (⟨"ContextUnfolderModel", "block", "()Z"⟩, 21), (⟨"ContextUnfolderModel", "number", "(I)I"⟩, 21)]
theorem lw_r1 : ∀ q ∈ lw_privs_1, lw_okq q := List.forall_mem_cons.mpr ⟨lw_p0, List.forall_mem_cons.mpr ⟨lw_p1, List.forall_mem_cons.mpr ⟨lw_p2, List.forall_mem_cons.mpr ⟨lw_p3, List.forall_mem_cons.mpr ⟨lw_p4, List.forall_mem_cons.mpr ⟨lw_p5, List.forall_mem_cons.mpr ⟨lw_p6, List.forall_mem_cons.mpr ⟨lw_p7, List.forall_mem_cons.mpr ⟨lw_p8, List.forall_mem_cons.mpr ⟨lw_p9, List.forall_mem_cons.mpr ⟨lw_p10, List.forall_mem_cons.mpr ⟨lw_p11, List.forall_mem_cons.mpr ⟨lw_p12, List.forall_mem_cons.mpr ⟨lw_p13, List.forall_mem_cons.mpr ⟨lw_p14, List.forall_mem_cons.mpr ⟨lw_p15, fun _ h => absurd h List.not_mem_nil⟩⟩⟩⟩⟩⟩⟩⟩⟩⟩⟩⟩⟩⟩⟩⟩
theorem lw_p16 : lw_okq (⟨"ContextUnfolderModel", "plain", "(I)V"⟩, 21) := ⟨⟨by decide +kernel, by decide +kernel⟩, List.mem_of_getElem? (i := 465) (by decide +kernel), List.mem_of_getElem? (i := 575) (by decide +kernel), List.mem_of_getElem? (i := 576) (by decide +kernel)⟩
theorem lw_p17 : lw_okq (⟨"ContextUnfolderModel", "add", "(I)V"⟩, 21) := ⟨⟨by decide +kernel, by decide +kernel⟩, List.mem_of_getElem? (i := 465) (by decide +kernel), List.mem_of_getElem? (i := 579) (by decide +kernel), List.mem_of_getElem? (i := 580) (by decide +kernel)⟩
theorem lw_p18 : lw_okq (⟨"ContextUnfolderModel", "readHead", "()V"⟩, 21) := ⟨⟨by decide +kernel, by decide +kernel⟩, List.mem_of_getElem? (i := 465) (by decide +kernel), List.mem_of_getElem? (i := 583) (by decide +kernel), List.mem_of_getElem? (i := 584) (by decide +kernel)⟩
theorem lw_p19 : lw_okq (⟨"ContextUnfolderModel", "readCode", "(II)V"⟩, 21) := ⟨⟨by decide +kernel, by decide +kernel⟩, List.mem_of_getElem? (i := 465) (by decide +kernel), List.mem_of_getElem? (i := 587) (by decide +kernel), List.mem_of_getElem? (i := 588) (by decide +kernel)⟩
theorem lw_p20 : lw_okq (⟨"ContextUnfolderModel", "readSimple", "(II)V"⟩, 21) := ⟨⟨by decide +kernel, by decide +kernel⟩, List.mem_of_getElem? (i := 465) (by decide +kernel), List.mem_of_getElem? (i := 591) (by decide +kernel), List.mem_of_getElem? (i := 592) (by decide +kernel)⟩
theorem lw_p21 : lw_okq (⟨"ContextUnfolderModel", "widthOf", "(I)I"⟩, 21) := ⟨⟨by decide +kernel, by decide +kernel⟩, List.mem_of_getElem? (i := 465) (by decide +kernel), List.mem_of_getElem? (i := 595) (by decide +kernel), List.mem_of_getElem? (i := 596) (by decide +kernel)⟩
theorem lw_p22 : lw_okq (⟨"ContextUnfolderModel", "readMap", "(I)V"⟩, 21) := ⟨⟨by decide +kernel, by decide +kernel⟩, List.mem_of_getElem? (i := 465) (by decide +kernel), List.mem_of_getElem? (i := 599) (by decide +kernel), List.mem_of_getElem? (i := 600) (by decide +kernel)⟩
theorem lw_p23 : lw_okq (⟨"ContextUnfolderModel", "commands", "(I)V"⟩, 21) := ⟨⟨by decide +kernel, by decide +kernel⟩, List.mem_of_getElem? (i := 465) (by decide +kernel), List.mem_of_getElem? (i := 603) (by decide +kernel), List.mem_of_getElem? (i := 604) (by decide +kernel)⟩
theorem lw_p24 : lw_okq (⟨"ContextUnfolderModel", "symbol", "(I)I"⟩, 21) := ⟨⟨by decide +kernel, by decide +kernel⟩, List.mem_of_getElem? (i := 465) (by decide +kernel), List.mem_of_getElem? (i := 607) (by decide +kernel), List.mem_of_getElem? (i := 608) (by decide +kernel)⟩
theorem lw_p25 : lw_okq (⟨"ContextUnfolderModel", "wordOf", "(II)I"⟩, 21) := ⟨⟨by decide +kernel, by decide +kernel⟩, List.mem_of_getElem? (i := 465) (by decide +kernel), List.mem_of_getElem? (i := 611) (by decide +kernel), List.mem_of_getElem? (i := 612) (by decide +kernel)⟩
theorem lw_p26 : lw_okq (⟨"ContextUnfolderModel", "baseOf", "(II)I"⟩, 21) := ⟨⟨by decide +kernel, by decide +kernel⟩, List.mem_of_getElem? (i := 465) (by decide +kernel), List.mem_of_getElem? (i := 615) (by decide +kernel), List.mem_of_getElem? (i := 616) (by decide +kernel)⟩
theorem lw_p27 : lw_okq (⟨"ContextUnfolderModel", "readLetter", "()V"⟩, 21) := ⟨⟨by decide +kernel, by decide +kernel⟩, List.mem_of_getElem? (i := 465) (by decide +kernel), List.mem_of_getElem? (i := 619) (by decide +kernel), List.mem_of_getElem? (i := 620) (by decide +kernel)⟩
theorem lw_p28 : lw_okq (⟨"ContextUnfolderModel", "turn", "()V"⟩, 21) := ⟨⟨by decide +kernel, by decide +kernel⟩, List.mem_of_getElem? (i := 465) (by decide +kernel), List.mem_of_getElem? (i := 623) (by decide +kernel), List.mem_of_getElem? (i := 624) (by decide +kernel)⟩
theorem lw_p29 : lw_okq (⟨"ContextUnfolderModel", "context", "()I"⟩, 21) := ⟨⟨by decide +kernel, by decide +kernel⟩, List.mem_of_getElem? (i := 465) (by decide +kernel), List.mem_of_getElem? (i := 627) (by decide +kernel), List.mem_of_getElem? (i := 628) (by decide +kernel)⟩
theorem lw_p30 : lw_okq (⟨"ContextUnfolderModel", "piece", "(II)I"⟩, 21) := ⟨⟨by decide +kernel, by decide +kernel⟩, List.mem_of_getElem? (i := 465) (by decide +kernel), List.mem_of_getElem? (i := 631) (by decide +kernel), List.mem_of_getElem? (i := 632) (by decide +kernel)⟩
theorem lw_p31 : lw_okq (⟨"ContextUnfolderModel", "dictionary", "(III)I"⟩, 21) := ⟨⟨by decide +kernel, by decide +kernel⟩, List.mem_of_getElem? (i := 465) (by decide +kernel), List.mem_of_getElem? (i := 635) (by decide +kernel), List.mem_of_getElem? (i := 636) (by decide +kernel)⟩
def lw_privs_2 : List (MethodName × Nat) := [(⟨"ContextUnfolderModel", "plain", "(I)V"⟩, 21), (⟨"ContextUnfolderModel", "add", "(I)V"⟩, 21), (⟨"ContextUnfolderModel", "readHead", "()V"⟩, 21), (⟨"ContextUnfolderModel", "readCode", "(II)V"⟩, 21), (⟨"ContextUnfolderModel", "readSimple", "(II)V"⟩, 21), (⟨"ContextUnfolderModel", "widthOf", "(I)I"⟩, 21), (⟨"ContextUnfolderModel", "readMap", "(I)V"⟩, 21), (⟨"ContextUnfolderModel", "commands", "(I)V"⟩, 21), (⟨"ContextUnfolderModel", "symbol", "(I)I"⟩, 21), (⟨"ContextUnfolderModel", "wordOf", "(II)I"⟩, 21), (⟨"ContextUnfolderModel", "baseOf", "(II)I"⟩, 21), (⟨"ContextUnfolderModel", "readLetter", "()V"⟩, 21), (⟨"ContextUnfolderModel", "turn", "()V"⟩, 21), (⟨"ContextUnfolderModel", "context", "()I"⟩, 21), (⟨"ContextUnfolderModel", "piece", "(II)I"⟩, 21), (⟨"ContextUnfolderModel", "dictionary", "(III)I"⟩, 21)]
theorem lw_r2 : ∀ q ∈ lw_privs_2, lw_okq q := List.forall_mem_cons.mpr ⟨lw_p16, List.forall_mem_cons.mpr ⟨lw_p17, List.forall_mem_cons.mpr ⟨lw_p18, List.forall_mem_cons.mpr ⟨lw_p19, List.forall_mem_cons.mpr ⟨lw_p20, List.forall_mem_cons.mpr ⟨lw_p21, List.forall_mem_cons.mpr ⟨lw_p22, List.forall_mem_cons.mpr ⟨lw_p23, List.forall_mem_cons.mpr ⟨lw_p24, List.forall_mem_cons.mpr ⟨lw_p25, List.forall_mem_cons.mpr ⟨lw_p26, List.forall_mem_cons.mpr ⟨lw_p27, List.forall_mem_cons.mpr ⟨lw_p28, List.forall_mem_cons.mpr ⟨lw_p29, List.forall_mem_cons.mpr ⟨lw_p30, List.forall_mem_cons.mpr ⟨lw_p31, fun _ h => absurd h List.not_mem_nil⟩⟩⟩⟩⟩⟩⟩⟩⟩⟩⟩⟩⟩⟩⟩⟩
theorem lw_p32 : lw_okq (⟨"ContextUnfolderModel", "wordLetter", "(III)I"⟩, 21) := ⟨⟨by decide +kernel, by decide +kernel⟩, List.mem_of_getElem? (i := 465) (by decide +kernel), List.mem_of_getElem? (i := 639) (by decide +kernel), List.mem_of_getElem? (i := 640) (by decide +kernel)⟩
def lw_privs_3 : List (MethodName × Nat) := [(⟨"ContextUnfolderModel", "wordLetter", "(III)I"⟩, 21)]
theorem lw_r3 : ∀ q ∈ lw_privs_3, lw_okq q := List.forall_mem_cons.mpr ⟨lw_p32, fun _ h => absurd h List.not_mem_nil⟩
def lw_privs : List (MethodName × Nat) := lw_privs_1 ++ (lw_privs_2 ++ (lw_privs_3))
def lw_tbl : List Cond := k2_sels lw_privs ++ tables_1
theorem lw_privs_ok : ∀ q ∈ lw_privs, lw_okq q := by
  show ∀ q ∈ lw_privs_1 ++ (lw_privs_2 ++ (lw_privs_3)), lw_okq q
  exact List.forall_mem_append.mpr ⟨lw_r1, List.forall_mem_append.mpr ⟨lw_r2, lw_r3⟩⟩
end
section
/-! An exception that this method's own table catches: the search through the table, row by row, each row's class cold or warm (the library's search laws, one row at a time; my own rows). -/
section XK
variable {e : Env} {f : JFrame} {a : Addr} {cell : Cell}
/-- a row that covers the place and names a class by its pool entry: the search asks whether the thrown object's cell fits it -/
theorem xk_row {Q : Handler → Pre} {E : CtlPost} {d : Bool} {acts : List Action} {S : State} {x : ExceptionTableEntry} {t : List ExceptionTableEntry} {k : ClassId} (hx : covers x f.pc = true) (h0 : x.catchType ≠ 0)
    (hl : S.vm.ClassLinks e.platform f.method.cls x.catchType k) (hcell : S.heap[a]? = some cell) (hobj : ∀ z, cell.vm ≠ .statics z) (hk : ∃ z, S.vm.classes[cell.cls]? = some z) (hc : ∃ z, S.vm.classes[k]? = some z) :
    wp (findHandler.go f a (x :: t)) Q E e d acts S ↔ (if S.vm.assignable cell.cls k = true then Q (.found x.handlerPc) d acts (S.setVm (S.vm.noted f.method.cls x.catchType (.cls k))) else wp (findHandler.go f a t) Q E e d acts (S.setVm (S.vm.noted f.method.cls x.catchType (.cls k)))) := by
  simp only [covers] at hx
  obtain ⟨ha, ht⟩ := (resolveClass_links e.toSetting hl).op (op := VmOp.resolveClass f.method.cls x.catchType) rfl
  have hal : S.vm.Alike (S.vm.noted f.method.cls x.catchType (.cls k)) := (Vm.Alike.refl S.vm).noted _ _ _
  obtain ⟨z1, hz1⟩ := hk
  obtain ⟨z2, hz2⟩ := hc
  obtain ⟨z1', hz1', -⟩ := hal.2.2 _ _ hz1
  obtain ⟨z2', hz2', -⟩ := hal.2.2 _ _ hz2
  have hfit : (S.vm.noted f.method.cls x.catchType (.cls k)).assignable cell.cls k = S.vm.assignable cell.cls k := hal.assignable ..
  by_cases hb : S.vm.assignable cell.cls k = true
  · rw [if_pos hb]
    simp [findHandler.go, hx, h0, ha, ht, hcell, hobj, hz1', hz2', hfit, hb, VmOp.dirties, VmOp.acts]
  · rw [if_neg hb]
    simp [findHandler.go, hx, h0, ha, ht, hcell, hobj, hz1', hz2', hfit, hb, VmOp.dirties, VmOp.acts]
/-- the search over a table whose rows ahead of x don't take the object: it ends at x -/
theorem xk_search {s₀ : State} {x : ExceptionTableEntry} {rest : List ExceptionTableEntry} {k : ClassId} (hobj : ∀ z, cell.vm ≠ .statics z) (hk0 : ∃ z, s₀.vm.classes[cell.cls]? = some z) (hx : covers x f.pc = true) (h0 : x.catchType ≠ 0)
    (hl : s₀.vm.ClassLinks e.platform f.method.cls x.catchType k) (hfit : s₀.vm.assignable cell.cls k = true) :
    ∀ (pre : List ExceptionTableEntry) (S : State), s₀.WarmedH S.vm → S.heap[a]? = some cell →
      (∀ y ∈ pre, covers y f.pc = false ∨ (y.catchType ≠ 0 ∧ ∃ c, s₀.vm.ClassLinks e.platform f.method.cls y.catchType c ∧ s₀.vm.assignable cell.cls c = false)) →
      ∃ vm', s₀.WarmedH vm' ∧ ∀ (Q : Handler → Pre) (E : CtlPost) (d : Bool) (acts : List Action), wp (findHandler.go f a (pre ++ x :: rest)) Q E e d acts S ↔ Q (.found x.handlerPc) d acts (S.setVm vm') := by
  obtain ⟨z0, hz0⟩ := hk0
  intro pre
  induction pre with
  | nil =>
    intro S hW hcell _
    obtain ⟨z0', hz0', -⟩ := hW.alike.2.2 _ _ hz0
    obtain ⟨dk, _, _, kt, hd, _, _, _, _, hkt, _, hopen⟩ := hl.here
    obtain ⟨kt', hkt', -⟩ := hW.alike.2.2 _ _ hkt
    refine ⟨_, hW.noted hd hopen (State.rightAt_cls hl), fun Q E d acts => ?_⟩
    rw [List.nil_append, xk_row hx h0 (hW.classLinks hl) hcell hobj ⟨z0', hz0'⟩ ⟨kt', hkt'⟩, if_pos (by rw [hW.alike.assignable]; exact hfit)]
  | cons y ys ih =>
    intro S hW hcell hpass
    obtain ⟨z0', hz0', -⟩ := hW.alike.2.2 _ _ hz0
    have hys := fun z hz => hpass z (List.mem_cons_of_mem y hz)
    by_cases hcov : covers y f.pc = true
    · rcases hpass y List.mem_cons_self with h | ⟨hy0, c, hly, hno⟩
      · rw [h] at hcov; cases hcov
      · obtain ⟨dk, _, _, kt, hd, _, _, _, _, hkt, _, hopen⟩ := hly.here
        obtain ⟨kt', hkt', -⟩ := hW.alike.2.2 _ _ hkt
        obtain ⟨vm', hW', hq⟩ := ih (S.setVm (S.vm.noted f.method.cls y.catchType (.cls c))) (hW.noted hd hopen (State.rightAt_cls hly)) hcell hys
        refine ⟨vm', hW', fun Q E d acts => ?_⟩
        rw [List.cons_append, xk_row hcov hy0 (hW.classLinks hly) hcell hobj ⟨z0', hz0'⟩ ⟨kt', hkt'⟩, if_neg (by rw [hW.alike.assignable, hno]; decide)]
        exact hq Q E d acts
    · obtain ⟨vm', hW', hq⟩ := ih S hW hcell hys
      refine ⟨vm', hW', fun Q E d acts => ?_⟩
      rw [List.cons_append, W.findHandler_go_skip (by simpa using hcov)]
      exact hq Q E d acts
variable {p : Program} {l : Launch} {R : Room} {s : State} {m : MethodId} {args : Array Value} {below : List Frame} {meth : Method} {c : Code} {T : State} {locs : List Loc} {cells slots : Nat}
/-- caught at the row x of this method's table: the walk goes on at its handler, the object alone on the stack -/
theorem xk_caught (X : Stand p l e R s m args below meth c T locs cells slots) (a : Addr) {g : JFrame} (hg : g.method = m) (hcell : T.heap[a]? = some cell) (hobj : ∀ z, cell.vm ≠ .statics z) (hk0 : ∃ z, s.vm.classes[cell.cls]? = some z)
    (pre : List ExceptionTableEntry) (x : ExceptionTableEntry) (rest : List ExceptionTableEntry) (hsplit : c.exceptionTable.toList = pre ++ x :: rest)
    (hpass : ∀ y ∈ pre, covers y g.pc = false ∨ (y.catchType ≠ 0 ∧ ∃ k, s.vm.ClassLinks e.platform m.cls y.catchType k ∧ s.vm.assignable cell.cls k = false)) (hx : covers x g.pc = true) (h0 : x.catchType ≠ 0)
    {k : ClassId} (hl : s.vm.ClassLinks e.platform m.cls x.catchType k) (hfit : s.vm.assignable cell.cls k = true) :
    ∃ vm', Stand p l e R s m args below meth c (T.setVm vm') locs cells slots ∧ Steps p.tables e below ((T.setTop g).pushFrame (.throwing a)) ((T.setVm vm').setTop { g with pc := x.handlerPc, stack := [.ref a] }) := by
  subst hg
  obtain ⟨vm', hW', hq⟩ := xk_search (e := e) (f := g) (a := a) (rest := rest) hobj hk0 hx h0 hl hfit pre ((T.setTop g).pushFrame (.throwing a)) X.warmed hcell hpass
  have hfind : ∀ (Q : Handler → Pre) (E : CtlPost) (d : Bool) (acts : List Action), wp (findHandler g a) Q E e d acts ((T.setTop g).pushFrame (.throwing a)) ↔ Q (.found x.handlerPc) d acts (((T.setTop g).pushFrame (.throwing a)).setVm vm') := by
    intro Q E d acts
    rw [W.findHandler_eq (s := (T.setTop g).pushFrame (.throwing a)) X.method' X.code, hsplit]
    exact hq Q E d acts
  refine ⟨vm', X.noted hW', ?_⟩
  obtain ⟨hgo, hw⟩ := X.here.throwing a
  refine Steps.head hgo hw ?_
  have hstep : (stepThrowing e ((T.setTop g).pushFrame (.throwing a)) a (.java g :: T.frames.tail)).Is ((((T.setTop g).pushFrame (.throwing a)).setVm vm').setFrames (.java { g with pc := x.handlerPc, stack := [.ref a] } :: T.frames.tail)) [] := by
    simp only [stepThrowing, searchFrame, vmDo]
    generalize hr : Sem.go _ e false [] ((T.setTop g).pushFrame (.throwing a)) = res
    obtain ⟨as, rfl, ha⟩ := Sem.eq_ok_of hr (a := Handler.found x.handlerPc) (s' := ((T.setTop g).pushFrame (.throwing a)).setVm vm') (acts' := []) (by simp [hfind _ _ _ _])
    exact ⟨rfl, ha⟩
  rw [stepThread_throwing (frames_entered X.here.top _), hstep.1]
  obtain ⟨g₀, hr⟩ := X.frames_eq
  have hr' : (T.setVm vm').frames = .java g₀ :: below := hr
  have e1 : (((T.setTop g).pushFrame (.throwing a)).setVm vm').setFrames (.java { g with pc := x.handlerPc, stack := [.ref a] } :: T.frames.tail) = (T.setVm vm').setTop { g with pc := x.handlerPc, stack := [.ref a] } := by
    rw [State.setTop_of_frames _ hr', State.setTop_of_frames _ hr, State.pushFrame, hr, List.tail_cons]
    have e2 : ∀ (u : State) (F G : List Frame), ((u.setFrames F).setVm vm').setFrames G = (u.setVm vm').setFrames G := fun u F G => by
      have e3 : (u.setFrames F).setVm vm' = (u.setVm vm').setFrames F := rfl
      rw [e3, State.setFrames_setFrames]
    rw [e2, e2]
  rw [e1]
  exact Steps.refl _
end XK
/-! ===== BEGIN words of one list among another's, by their places ===== -/
theorem goodIn_r {big : List Cond} (ws : List Cond) (ps : List Nat) (hp : ws = ps.filterMap (fun i => big[i]?)) (h : ws.all goodWord = true) : GoodIn big ws := by
  intro w hw
  have h1 := List.all_eq_true.mp h w hw
  rw [hp] at hw
  obtain ⟨i, -, hi⟩ := List.mem_filterMap.mp hw
  have hm : w ∈ big := by first | exact List.mem_of_getElem? hi | exact List.getElem?_mem hi
  exact ⟨hm, good_of_word h1⟩
theorem goodIn_app {big a b : List Cond} (ha : GoodIn big a) (hb : GoodIn big b) : GoodIn big (a ++ b) := fun w h => (List.mem_append.mp h).elim (ha w) (hb w)
theorem goodIn_ca {big a b : List Cond} {c : Cond} (ha : GoodIn big (c :: a)) (hb : GoodIn big b) : GoodIn big (c :: (a ++ b)) := fun w h => (List.mem_cons.mp h).elim (fun e => ha w (List.mem_cons.mpr (Or.inl e))) (fun h => (List.mem_append.mp h).elim (fun h => ha w (List.mem_cons.mpr (Or.inr h))) (hb w))
theorem goodIn_sub {big ws : List Cond} (hm : ∀ w ∈ ws, w ∈ big) (h : ws.all goodWord = true) : GoodIn big ws := fun w hw => ⟨hm w hw, good_of_word (List.all_eq_true.mp h w hw)⟩
/-! ===== END ===== -/

/-! ===== BEGIN exceptions that leave a method, and their catching by the caller (launches without stack traces) ===== -/
section VXA
/-! The laws vx_back, vx_callV, vx_callS, vx_callSW, vx_throw0, vx_throwS follow proofs of the library, with one case more: JvmDerived/Free/Laws.lean (Back.of_free), Shelf42/LK1.lean (callV, callS), Shelf/KitTraced.lean (throwNew0V, throwNewS). -/
/-- where a method has thrown q: the class by its name, the cell, what was written, the world -/
def vx_T (XC : String → State → State → Prop) (st : State) (q : Addr) (t : State) (mc ms : Nat) (free : Addr → Prop) : Prop :=
  ∃ (E : String) (ce : Cell) (L : List Loc), XC E st t ∧ t.heap[q]? = some ce ∧ ce.vm = .none ∧ st.vm.findClass E = some ce.cls ∧ st.WarmedH t.vm ∧ st.sameButNew ({ t with vm := st.vm } : State) L mc ms ∧ ∀ z ∈ L, free z.base
def vx_Q (Qc : Array Value → State → Outcome → State → Prop) (XC : String → State → State → Prop) (mc ms : Nat) (free : Addr → Prop) : Array Value → State → Outcome → State → Prop := fun a st o t =>
  (Qc a st o t ∧ ∃ L, FrameEnd st o t L mc ms ∧ ∀ q ∈ L, free q.base) ∨ ∃ q, o = .threw q ∧ vx_T XC st q t mc ms free
/-- a callee that returns or throws -/
def vx_Met (l : Launch) (y : MethodName) (ws : List Cond) (rm : Room) (Pc : Array Value → State → Prop) (Qc : Array Value → State → Outcome → State → Prop) (XC : String → State → State → Prop) (mc ms : Nat) (free : Addr → Prop) : Prop :=
  MetFree l y (headSpec ws rm) Pc (fun _ _ _ _ _ => True) (vx_Q Qc XC mc ms free)
def vx_Post (XC : String → State → State → Prop) (mc ms : Nat) (free : Addr → Prop) : Pt → Array Value → Addr → Pt → Prop := fun A a q B =>
  ∃ (g : JFrame) (mk : MethodId) (t : State) (L : List Loc) (E : String) (ce : Cell), B.U.heap = t.heap ∧ B.U.vm = t.vm ∧ XC E (A.U.calling g mk a) t ∧ t.heap[q]? = some ce ∧ ce.vm = .none ∧ A.U.vm.findClass E = some ce.cls ∧ B.locs = A.locs ++ L ∧ (∀ z ∈ L, free z.base) ∧ B.cells = A.cells + mc ∧ B.slots = A.slots + ms
def vx_Back (l : Launch) (R : Room) (p : Program) (e : Env) (below : List Frame) (s : State) (sargs : Array Value) (y : MethodName) (len W9 : Nat)
    (Pre : Pt → Array Value → Prop) (Post : Pt → Array Value → Option Value → Pt → Prop) (PostX : Pt → Array Value → Addr → Pt → Prop) : Prop :=
  ∀ (m : MethodId) (meth : Method) (c : Code) (A : Pt) (g : JFrame) (ig : Instr) (mk : MethodId) (a : Array Value),
    Stand p l e R s m sargs below meth c A.U A.locs A.cells A.slots → g.method = m → g.locals.size = c.maxLocals → decode c.code g.pc = .ok (ig, len) →
    2 * g.monitorRoom + (g.stack.map fun v => v.category).sum ≤ W9 → A.U.methodNamed? y = some mk → Pre A a →
    (∃ (v : Option Value) (B : Pt), Stand p l e R s m sargs below meth c B.U B.locs B.cells B.slots ∧ Post A a v B ∧
      Steps p.tables e below (doInvoke e (A.U.setTop g) [] mk a).1 (B.U.setTop { g with pc := g.pc + len, stack := v.toList ++ g.stack })) ∨
    (∃ (q : Addr) (B : Pt), Stand p l e R s m sargs below meth c B.U B.locs B.cells B.slots ∧ PostX A a q B ∧
      Steps p.tables e below (doInvoke e (A.U.setTop g) [] mk a).1 ((B.U.setTop g).pushFrame (.throwing q)))
section Payer
variable {l : Launch} {R : Room} {p : Program} {e : Env} {below : List Frame} {s : State} {sargs : Array Value} {y : MethodName} {len W9 : Nat}
theorem vx_back {ws : List Cond} {rm : Room} {Pc : Array Value → State → Prop} {Qc : Array Value → State → Outcome → State → Prop} {XC : String → State → State → Prop} {mc ms : Nat} {free : Addr → Prop} {bytes : ByteArray} {maxL : Nat} {ret : Option FieldType}
    (hM : vx_Met l y ws rm Pc Qc XC mc ms free) (hblind : FrameBlind Pc) (hrc : rm.cells = mc) (hrs : rm.slots = ms)
    (hframes : rm.frames + 1 ≤ R.frames) (hlocals : W9 + (maxL + 11) + rm.locals ≤ R.locals)
    (hws : ∀ w ∈ ws, ∀ a' U, s.WarmedH U.vm → w.before a' U = true) (hcode : Cond.code y bytes maxL ret ∈ ws) (hinit : ∀ a' U, s.WarmedH U.vm → (Cond.initialized y.cls).before a' U = true) :
    vx_Back l R p e below s sargs y len W9 (PreOf R mc ms Pc) (PostOf Qc mc ms free) (vx_Post XC mc ms free) := by
  intro m meth c A g ig mk a X hg hsize hdg hW hn hp
  have h1 : (headSpec ws rm).pre.before a A.U = true := atoms_intro fun w hw => hws w hw _ _ X.warmed
  have h2 : (Cond.code y bytes maxL ret).before a A.U = true := hws _ hcode _ _ X.warmed
  have h3 : (Cond.initialized y.cls).before a A.U = true := hinit _ _ X.warmed
  have h4 : A.cells + (headSpec ws rm).room.cells ≤ R.cells := by rw [show (headSpec ws rm).room.cells = mc from hrc]; exact hp.1
  have h5 : A.slots + (headSpec ws rm).room.slots ≤ R.slots := by rw [show (headSpec ws rm).room.slots = ms from hrs]; exact hp.2.1
  have hPc : Pc a (A.U.calling g mk a) := hblind _ _ _ _ hp.2.2
  obtain ⟨U, Ls, c0, s0⟩ := A
  dsimp only [Pt.U, Pt.locs, Pt.cells, Pt.slots] at h1 h2 h3 h4 h5 X hn hPc ⊢
  obtain ⟨methY, cY, hmY, hcY, -, hlY, -, -, -, -⟩ := Cond.code_spec hn h2
  obtain ⟨kY, hkY, -⟩ := className_of_methodNamed hn
  have hinitY : kY.init = .initialized := Cond.initialized_spec (findClass_of_methodNamed hn) hkY h3
  have h : At U g.method c below := by rw [hg]; exact X.here
  have hlocals9 : W9 + (maxL + 11) + (headSpec ws rm).room.locals ≤ R.locals := hlocals
  have happ : (headSpec ws rm).appliesLoose y e.platform (U.calling g mk a) = true :=
    Spec.appliesLoose_calling (g := g) h hdg hn hkY hinitY
      (X.room_calling (g := g) (R' := (headSpec ws rm).room) hsize hmY hcY hframes (by rw [hlY]; omega) h4 h5) h1
  obtain ⟨mid, hmid⟩ := h.above
  have hfr : (U.setTop g).frames = (.java g :: mid) ++ below := by rw [State.frames_setTop' g h.top, hmid]; rfl
  obtain ⟨o, s₂, hsteps, -, hend, hq⟩ := Steps.callFree hM p X.admits X.cas X.clock (acts := []) hfr happ hPc trivial
  have hq' : vx_Q Qc XC mc ms free a (U.calling g mk a) o s₂ := hq
  rw [State.frames_setTop' g h.top] at hend
  obtain ⟨g₀, hg0⟩ := Option.isSome_iff_exists.mp h.top
  obtain ⟨r, hr⟩ := State.topJava?_eq_some.mp hg0
  have hr' : (({ U with heap := s₂.heap, slotsUsed := s₂.slotsUsed } : State).setVm s₂.vm).frames = .java g₀ :: r := hr
  rcases hq' with ⟨hqc, L, hfe, hL⟩ | ⟨q, rfl, E, ce, L, hx, hce, hcv, hcl, hW₂, hsm, hL⟩
  · obtain ⟨⟨v, rfl⟩, hW₂, e2, q2, q3, q4, q5, q6⟩ := id hfe
    have e3 : s₂ = ({ (U.calling g mk a).setFrames s₂.frames with heap := s₂.heap, slotsUsed := s₂.slotsUsed } : State).setVm s₂.vm := by
      have : s₂ = ({ s₂ with vm := (U.calling g mk a).vm } : State).setVm s₂.vm := rfl
      rw [e2] at this
      exact this
    obtain ⟨c₂, i₂, len₂, hc₂, hd₂, hf₂⟩ := hend
    have hW' : U.WarmedH s₂.vm := hW₂
    have hcc : c₂ = c := by
      have h1 : s₂.code? g.method = U.code? g.method := by
        rw [State.code?_eq, State.code?_eq, hW'.alike.method?]
      exact Option.some.inj (hc₂.symm.trans (h1.trans h.code))
    subst hcc
    have hlen : len₂ = len := by rw [hdg] at hd₂; cases hd₂; rfl
    subst hlen
    have hs₂ : s₂ = (({ U with heap := s₂.heap, slotsUsed := s₂.slotsUsed } : State).setVm s₂.vm).setTop { g with pc := g.pc + len₂, stack := v.toList ++ g.stack } := by
      refine e3.trans ?_
      rw [hf₂, State.calling_eq h.top, State.setFrames_setFrames, State.setTop_of_frames _ hr', hr]
      rfl
    have hsame : U.sameButNew ({ U with heap := s₂.heap, slotsUsed := s₂.slotsUsed } : State) L mc ms := by
      refine ⟨?_, q2, q3, q4, q5, q6⟩
      obtain ⟨t, ht, -⟩ := State.frames_cons hr
      show ({ U with heap := s₂.heap, slotsUsed := s₂.slotsUsed } : State) = { U.setFrames U.frames with heap := s₂.heap, slotsUsed := s₂.slotsUsed }
      rw [State.setFrames_self ht]
    subst hg
    refine Or.inl ⟨v, ⟨(({ U with heap := s₂.heap, slotsUsed := s₂.slotsUsed } : State).setVm s₂.vm), Ls ++ L, c0 + mc, s0 + ms⟩,
      ⟨X.admits, X.cas, X.clock, X.frames, X.room, X.hears, X.method, X.code, (X.here.setHeapUsed s₂.heap s₂.slotsUsed).setVm hW'.alike, X.tail, State.WarmedH.trans X.warmed hW', X.limits, X.bytes, X.same.trans (hsame.setVm s.vm)⟩,
      ⟨g, mk, s₂, L, rfl, rfl, hqc, rfl, hL, rfl, rfl⟩, ?_⟩
    show Steps p.tables e below _ ((({ U with heap := s₂.heap, slotsUsed := s₂.slotsUsed } : State).setVm s₂.vm).setTop { g with pc := g.pc + len₂, stack := v.toList ++ g.stack })
    rw [← hs₂]
    exact hsteps
  · obtain ⟨e2, q2, q3, q4, q5, q6⟩ := id hsm
    have e3 : s₂ = ({ (U.calling g mk a).setFrames s₂.frames with heap := s₂.heap, slotsUsed := s₂.slotsUsed } : State).setVm s₂.vm := by
      have : s₂ = ({ s₂ with vm := (U.calling g mk a).vm } : State).setVm s₂.vm := rfl
      rw [e2] at this
      exact this
    have hf₂ : s₂.frames = .throwing q :: .java g :: U.frames.tail := hend
    have hW' : U.WarmedH s₂.vm := hW₂
    have hs₂ : s₂ = ((({ U with heap := s₂.heap, slotsUsed := s₂.slotsUsed } : State).setVm s₂.vm).setTop g).pushFrame (.throwing q) := by
      refine e3.trans ?_
      rw [hf₂, State.calling_eq h.top, State.setFrames_setFrames, State.pushFrame, State.frames_setTop _ hr', State.setTop_of_frames _ hr', State.setFrames_setFrames, hr]
      rfl
    have hsame : U.sameButNew ({ U with heap := s₂.heap, slotsUsed := s₂.slotsUsed } : State) L mc ms := by
      refine ⟨?_, q2, q3, q4, q5, q6⟩
      obtain ⟨t, ht, -⟩ := State.frames_cons hr
      show ({ U with heap := s₂.heap, slotsUsed := s₂.slotsUsed } : State) = { U.setFrames U.frames with heap := s₂.heap, slotsUsed := s₂.slotsUsed }
      rw [State.setFrames_self ht]
    subst hg
    refine Or.inr ⟨q, ⟨(({ U with heap := s₂.heap, slotsUsed := s₂.slotsUsed } : State).setVm s₂.vm), Ls ++ L, c0 + mc, s0 + ms⟩,
      ⟨X.admits, X.cas, X.clock, X.frames, X.room, X.hears, X.method, X.code, (X.here.setHeapUsed s₂.heap s₂.slotsUsed).setVm hW'.alike, X.tail, State.WarmedH.trans X.warmed hW', X.limits, X.bytes, X.same.trans (hsame.setVm s.vm)⟩,
      ⟨g, mk, s₂, L, E, ce, rfl, rfl, hx, hce, hcv, hcl, rfl, hL, rfl, rfl⟩, ?_⟩
    show Steps p.tables e below _ (((({ U with heap := s₂.heap, slotsUsed := s₂.slotsUsed } : State).setVm s₂.vm).setTop g).pushFrame (.throwing q))
    rw [← hs₂]
    exact hsteps
end Payer
section Calls
variable {p : Program} {l : Launch} {e : Env} {R : Room} {s : State} {m : MethodId} {args : Array Value} {below : List Frame} {meth : Method} {c : Code} {T : State} {locs : List Loc} {cells slots : Nat}
theorem vx_callV (X : Stand p l e R s m args below meth c T locs cells slots) (hexec : p.tables.exec = Jvm.exec) {own C : String} {index : Nat} {y : MethodName} {bytes : ByteArray} {maxL : Nat} {ret : Option FieldType}
    (hown : s.vm.findClass own = some m.cls) (hlink : (Cond.methodLink own index y).before args s = true) (hinst : (Cond.instanceMethod y).before args s = true) (hsel : (Cond.selects C y y).before args s = true)
    (hcode : (Cond.code y bytes maxL ret).before args s = true) (hy : y.cls ≠ "java/lang/invoke/MethodHandle" ∧ y.cls ≠ "java/lang/invoke/VarHandle")
    {W9 : Nat} {Pre : Pt → Array Value → Prop} {Post : Pt → Array Value → Option Value → Pt → Prop} {PostX : Pt → Array Value → Addr → Pt → Prop} (hK : vx_Back l R p e below s args y 3 W9 Pre Post PostX)
    {b : Addr} {cellB : Cell} (hcell : T.heap[b]? = some cellB) (hobj : cellB.vm.isStatics = false) (hcls : s.vm.findClass C = some cellB.cls)
    {g : JFrame} (hg : g.method = m) (hsize : g.locals.size = c.maxLocals) {argsL rest : List Value} (hlen : ∀ sig, parseMethodDescriptor y.desc = some sig → argsL.length = sig.parameters.length)
    (hstack : g.stack = argsL.reverse ++ .ref b :: rest) (hW : 2 * g.monitorRoom + (rest.map fun v => v.category).sum ≤ W9) (hdg : decode c.code g.pc = .ok (.invokevirtual index, 3))
    (hpre : ∀ vm₁, s.WarmedH vm₁ → Pre ⟨T.setVm vm₁, locs, cells, slots⟩ (Value.ref b :: argsL).toArray) :
    (∃ (v : Option Value) (vm₁ : Vm) (B : Pt), s.WarmedH vm₁ ∧ Stand p l e R s m args below meth c B.U B.locs B.cells B.slots ∧ Post ⟨T.setVm vm₁, locs, cells, slots⟩ (Value.ref b :: argsL).toArray v B ∧
      ∀ target, Steps p.tables e below (B.U.setTop { g with pc := g.pc + 3, stack := v.toList ++ rest }) target → Steps p.tables e below (T.setTop g) target) ∨
    (∃ (q : Addr) (vm₁ : Vm) (B : Pt), s.WarmedH vm₁ ∧ Stand p l e R s m args below meth c B.U B.locs B.cells B.slots ∧ PostX ⟨T.setVm vm₁, locs, cells, slots⟩ (Value.ref b :: argsL).toArray q B ∧
      Steps p.tables e below (T.setTop g) ((B.U.setTop { g with stack := rest }).pushFrame (.throwing q))) := by
  obtain ⟨mk, methM, hnamed, hmethM, hstM, habM⟩ := Cond.instanceMethod_spec hinst
  obtain ⟨methM', cM, hmethM', -, -, -, -, -, -, hsigM⟩ := Cond.code_spec hnamed hcode
  cases hmethM.symm.trans hmethM'
  obtain ⟨c2, r2, m2, q1, q2, q3, q4, kP, hkP, hkPi⟩ := Cond.selects_spec hsel
  cases hcls.symm.trans q1
  cases (State.methodFound?_of_named hnamed hy).symm.trans q2
  cases hnamed.symm.trans q3
  have hselP : selectMethod e.platform s.vm cellB.cls mk = .method mk := by rw [Launch.admits_selectMethod X.admits]; exact q4
  obtain ⟨vm₁, X₁, hstep₁⟩ := X.invokevirtual hexec hown hlink hnamed hmethM hstM hkP hkPi hy (a := b) (cell := cellB) hcell
    (fun z h => by rw [h] at hobj; cases hobj) hselP hmethM habM hkP hkPi (g := g) hg (argsL := argsL) (rest := rest) (hlen _ hsigM) hstack hdg
  rcases hK m meth c ⟨T.setVm vm₁, locs, cells, slots⟩ { g with stack := rest } (.invokevirtual index) mk (Value.ref b :: argsL).toArray X₁ hg hsize hdg hW (X₁.named hnamed) (hpre vm₁ X₁.warmed) with ⟨v, B, X', hpost, hsteps⟩ | ⟨q, B, X', hpost, hsteps⟩
  · exact Or.inl ⟨v, vm₁, B, X₁.warmed, X', hpost, fun target h => hstep₁ _ fun acts => by rw [doInvoke_state]; exact hsteps.trans h⟩
  · exact Or.inr ⟨q, vm₁, B, X₁.warmed, X', hpost, hstep₁ _ fun acts => by rw [doInvoke_state]; exact hsteps⟩
theorem vx_callS (X : Stand p l e R s m args below meth c T locs cells slots) (hexec : p.tables.exec = Jvm.exec) {own : String} {index : Nat} {y : MethodName} {bytes : ByteArray} {maxL : Nat} {ret : Option FieldType}
    (hown : s.vm.findClass own = some m.cls) (hlink : (Cond.methodLink own index y).before args s = true) (hstat : (Cond.static y).before args s = true) (hinit : (Cond.initialized y.cls).before args s = true)
    (hcode : (Cond.code y bytes maxL ret).before args s = true) (hy : y.cls ≠ "java/lang/invoke/MethodHandle" ∧ y.cls ≠ "java/lang/invoke/VarHandle")
    {W9 : Nat} {Pre : Pt → Array Value → Prop} {Post : Pt → Array Value → Option Value → Pt → Prop} {PostX : Pt → Array Value → Addr → Pt → Prop} (hK : vx_Back l R p e below s args y 3 W9 Pre Post PostX)
    {g : JFrame} (hg : g.method = m) (hsize : g.locals.size = c.maxLocals) {argsL rest : List Value} (hlen : ∀ sig, parseMethodDescriptor y.desc = some sig → argsL.length = sig.parameters.length)
    (hstack : g.stack = argsL.reverse ++ rest) (hW : 2 * g.monitorRoom + (rest.map fun v => v.category).sum ≤ W9) (hdg : decode c.code g.pc = .ok (.invokestatic index, 3))
    (hpre : ∀ vm₁, s.WarmedH vm₁ → Pre ⟨T.setVm vm₁, locs, cells, slots⟩ argsL.toArray) :
    (∃ (v : Option Value) (vm₁ : Vm) (B : Pt), s.WarmedH vm₁ ∧ Stand p l e R s m args below meth c B.U B.locs B.cells B.slots ∧ Post ⟨T.setVm vm₁, locs, cells, slots⟩ argsL.toArray v B ∧
      ∀ target, Steps p.tables e below (B.U.setTop { g with pc := g.pc + 3, stack := v.toList ++ rest }) target → Steps p.tables e below (T.setTop g) target) ∨
    (∃ (q : Addr) (vm₁ : Vm) (B : Pt), s.WarmedH vm₁ ∧ Stand p l e R s m args below meth c B.U B.locs B.cells B.slots ∧ PostX ⟨T.setVm vm₁, locs, cells, slots⟩ argsL.toArray q B ∧
      Steps p.tables e below (T.setTop g) ((B.U.setTop { g with stack := rest }).pushFrame (.throwing q))) := by
  obtain ⟨mk, hnamed⟩ := Cond.code_named hcode
  obtain ⟨methM, cM, hmethM, -, -, -, -, -, -, hsigM⟩ := Cond.code_spec hnamed hcode
  have hstatic : methM.isStatic = true := Cond.static_spec hnamed hmethM hstat
  obtain ⟨kP, hkP, -⟩ := className_of_methodNamed hnamed
  have hinitP : kP.init = .initialized := Cond.initialized_spec (findClass_of_methodNamed hnamed) hkP hinit
  obtain ⟨vm₁, X₁, hstep₁⟩ := X.invokestatic hexec hown hlink hnamed hmethM hstatic hkP hinitP hy (g := g) hg (argsL := argsL) (rest := rest) (hlen _ hsigM) hstack hdg
  rcases hK m meth c ⟨T.setVm vm₁, locs, cells, slots⟩ { g with stack := rest } (.invokestatic index) mk argsL.toArray X₁ hg hsize hdg hW (X₁.named hnamed) (hpre vm₁ X₁.warmed) with ⟨v, B, X', hpost, hsteps⟩ | ⟨q, B, X', hpost, hsteps⟩
  · exact Or.inl ⟨v, vm₁, B, X₁.warmed, X', hpost, fun target h => hstep₁ _ fun acts => by rw [doInvoke_state]; exact hsteps.trans h⟩
  · exact Or.inr ⟨q, vm₁, B, X₁.warmed, X', hpost, hstep₁ _ fun acts => by rw [doInvoke_state]; exact hsteps⟩
end Calls
theorem vx_cls {s : State} {T : State} {vm₁ : Vm} {E : String} {k : ClassId} (hW : s.WarmedH vm₁) (h : (T.setVm vm₁).vm.findClass E = some k) : s.vm.findClass E = some k := by
  have h1 : vm₁.findClass E = some k := h
  rw [hW.alike.findClass] at h1
  exact h1
/-- the method's frame g, with q thrown over it -/
def vx_W (p : Program) (l : Launch) (e : Env) (R : Room) (s : State) (m : MethodId) (args : Array Value) (below : List Frame) (meth : Method) (c : Code) (H : Heap) (locs : List Loc) (cells slots : Nat) (Q : State → Prop) (g : JFrame) (q : Addr) : Prop :=
  ∀ T : State, T.heap = H → Stand p l e R s m args below meth c T locs cells slots → ∃ t, Steps p.tables e below ((T.setTop g).pushFrame (.throwing q)) t ∧ Q t
def vx_Run (p : Program) (l : Launch) (e : Env) (R : Room) (s : State) (m : MethodId) (args : Array Value) (below : List Frame) (meth : Method) (c : Code) (H : Heap) (locs : List Loc) (cells slots mc ms : Nat) (g : JFrame) (rest : List Value) (Qa : State → Outcome → State → Prop) (XC : String → State → State → Prop) (free : Addr → Prop) : Prop :=
  ∀ T : State, T.heap = H → Stand p l e R s m args below meth c T locs cells slots →
    (∃ (v : Option Value) (st₀ t T' : State) (L : List Loc), st₀.heap = H ∧ Stand p l e R s m args below meth c T' (locs ++ L) (cells + mc) (slots + ms) ∧ (∀ q ∈ L, free q.base) ∧ T'.heap = t.heap ∧ T'.vm = t.vm ∧ Qa st₀ (.returned v) t ∧
      Goes p e below T g T' { g with pc := g.pc + 3, stack := v.toList ++ rest }) ∨
    (∃ (q : Addr) (st₀ t T' : State) (L : List Loc) (E : String) (ce : Cell), st₀.heap = H ∧ Stand p l e R s m args below meth c T' (locs ++ L) (cells + mc) (slots + ms) ∧ (∀ z ∈ L, free z.base) ∧ T'.heap = t.heap ∧ T'.vm = t.vm ∧ XC E st₀ t ∧ t.heap[q]? = some ce ∧ ce.vm = .none ∧ s.vm.findClass E = some ce.cls ∧
      Steps p.tables e below (T.setTop g) ((T'.setTop { g with stack := rest }).pushFrame (.throwing q)))
def vx_X {S : Type} (px : S → Prop) (B : String → S → State → Prop) (A : Nat → Prop) : String → State → State → Prop := fun E st t => ∃ u : S, px u ∧ B E u t ∧ va_F A st t
section Runs
variable {p : Program} {l : Launch} {e : Env} {R : Room} {s : State} {m : MethodId} {args : Array Value} {below : List Frame} {meth : Method} {c : Code} {H : Heap} {locs : List Loc} {cells slots : Nat}
variable {y : MethodName} {bytes cc : ByteArray} {maxL nL mc ms n index : Nat} {ret : Option FieldType} {ws : List Cond} {rm : Room} {Pc : Array Value → State → Prop} {Qc : Array Value → State → Outcome → State → Prop} {XC : String → State → State → Prop} {free : Addr → Prop} {Ts : List Cond} {own C : String} {b : Addr} {As rest : List Value} {g : JFrame}
theorem vx_callBack (cb : CallB R s args own index y bytes maxL ret ws rm mc ms n) (hM : vx_Met l y ws rm Pc Qc XC mc ms free) (hbl : FrameBlind Pc) : vx_Back l R p e below s args y 3 8 (PreOf R mc ms Pc) (PostOf Qc mc ms free) (vx_Post XC mc ms free) := by
  obtain ⟨hrc, hrs, hfr, hlo, hws, hcw, -, hini, -⟩ := cb
  exact vx_back (bytes := bytes) (maxL := maxL) (ret := ret) hM hbl hrc hrs hfr hlo hws hcw (fun a' U hW => word_at hW (Or.inl (by first | rfl | simp [Cond.onTables, Cond.keeps, Cond.steady])) hini)
theorem vx_runV (S : CallFix p m c cc nL s args Ts own) (hM : vx_Met l y ws rm Pc Qc XC mc ms free) (cw : CallW R s args own C index y bytes maxL ret ws rm mc ms n) (hp : PreV s H C b Pc As)
    (hg : g.method = m) (hn : As.length = n) (hsize : g.locals.size = nL) (hstack : g.stack = As.reverse ++ .ref b :: rest) (hW : 2 * g.monitorRoom + (rest.map fun v => v.category).sum ≤ 8) (hdg : decode cc g.pc = .ok (.invokevirtual index, 3)) (hf : cells + mc ≤ R.cells ∧ slots + ms ≤ R.slots) :
    vx_Run p l e R s m args below meth c H locs cells slots mc ms g rest (Qc (Value.ref b :: As).toArray) XC free := by
  have hK : vx_Back l R p e below s args y 3 8 (PreOf R mc ms Pc) (PostOf Qc mc ms free) (vx_Post XC mc ms free) := vx_callBack cw.1 hM hp.1
  obtain ⟨⟨-, -, -, -, -, -, hcode, -, hy, hlen, hl⟩, hin, hse⟩ := cw
  obtain ⟨hx, hb, hml, ho, -⟩ := S
  obtain ⟨-, ⟨cellB, hcB, hoB, hclB⟩, hPc⟩ := hp
  intro T hT X
  rcases vx_callV X hx (C := C) (bytes := bytes) (maxL := maxL) (ret := ret) ho hl hin hse hcode hy hK (by rw [hT]; exact hcB) hoB hclB hg (hsize.trans hml.symm) (argsL := As) (rest := rest) (fun sig h => hn.trans (hlen sig h)) hstack hW (by rw [hb]; exact hdg)
    (fun vm₁ hW₁ => ⟨hf.1, hf.2, hPc (T.setVm vm₁) hT hW₁⟩) with ⟨v, vm₁, ⟨U', l2, c2, s2⟩, hW₁, X', ⟨g', mk, t, L, e1, e2, hq, h1, hL, h2, h3⟩, st⟩ | ⟨q, vm₁, ⟨U', l2, c2, s2⟩, hW₁, X', ⟨g', mk, t, L, E, ce, e1, e2, hq, hce, hcv, hcl, h1, hL, h2, h3⟩, st⟩
  · dsimp only [Pt.U, Pt.locs, Pt.cells, Pt.slots] at X' e1 e2 h1 h2 h3 st
    subst h1; subst h2; subst h3
    exact Or.inl ⟨v, (T.setVm vm₁).calling g' mk (Value.ref b :: As).toArray, t, U', L, hT, X', hL, e1, e2, hq, st⟩
  · dsimp only [Pt.U, Pt.locs, Pt.cells, Pt.slots] at X' e1 e2 h1 h2 h3 st hcl
    subst h1; subst h2; subst h3
    exact Or.inr ⟨q, (T.setVm vm₁).calling g' mk (Value.ref b :: As).toArray, t, U', L, E, ce, hT, X', hL, e1, e2, hq, hce, hcv, vx_cls hW₁ hcl, st⟩
theorem vx_runS (S : CallFix p m c cc nL s args Ts own) (hM : vx_Met l y ws rm Pc Qc XC mc ms free) (cw : CallB R s args own index y bytes maxL ret ws rm mc ms n ∧ (Cond.static y).before args s = true) (hp : PreS s H Pc As)
    (hg : g.method = m) (hn : As.length = n) (hsize : g.locals.size = nL) (hstack : g.stack = As.reverse ++ rest) (hW : 2 * g.monitorRoom + (rest.map fun v => v.category).sum ≤ 8) (hdg : decode cc g.pc = .ok (.invokestatic index, 3)) (hf : cells + mc ≤ R.cells ∧ slots + ms ≤ R.slots) :
    vx_Run p l e R s m args below meth c H locs cells slots mc ms g rest (Qc As.toArray) XC free := by
  have hK : vx_Back l R p e below s args y 3 8 (PreOf R mc ms Pc) (PostOf Qc mc ms free) (vx_Post XC mc ms free) := vx_callBack cw.1 hM hp.1
  obtain ⟨⟨-, -, -, -, -, -, hcode, hini, hy, hlen, hl⟩, hstt⟩ := cw
  obtain ⟨hx, hb, hml, ho, -⟩ := S
  intro T hT X
  rcases vx_callS X hx (bytes := bytes) (maxL := maxL) (ret := ret) ho hl hstt hini hcode hy hK hg (hsize.trans hml.symm) (argsL := As) (rest := rest) (fun sig h => hn.trans (hlen sig h)) hstack hW (by rw [hb]; exact hdg)
    (fun vm₁ hW₁ => ⟨hf.1, hf.2, hp.2 (T.setVm vm₁) hT hW₁⟩) with ⟨v, vm₁, ⟨U', l2, c2, s2⟩, hW₁, X', ⟨g', mk, t, L, e1, e2, hq, h1, hL, h2, h3⟩, st⟩ | ⟨q, vm₁, ⟨U', l2, c2, s2⟩, hW₁, X', ⟨g', mk, t, L, E, ce, e1, e2, hq, hce, hcv, hcl, h1, hL, h2, h3⟩, st⟩
  · dsimp only [Pt.U, Pt.locs, Pt.cells, Pt.slots] at X' e1 e2 h1 h2 h3 st
    subst h1; subst h2; subst h3
    exact Or.inl ⟨v, (T.setVm vm₁).calling g' mk As.toArray, t, U', L, hT, X', hL, e1, e2, hq, st⟩
  · dsimp only [Pt.U, Pt.locs, Pt.cells, Pt.slots] at X' e1 e2 h1 h2 h3 st hcl
    subst h1; subst h2; subst h3
    exact Or.inr ⟨q, (T.setVm vm₁).calling g' mk As.toArray, t, U', L, E, ce, hT, X', hL, e1, e2, hq, hce, hcv, vx_cls hW₁ hcl, st⟩
end Runs
section Rows
variable {p : Program} {l : Launch} {e : Env} {R : Room} {s : State} {m : MethodId} {args : Array Value} {below : List Frame} {meth : Method} {c : Code} {H : Heap} {locs : List Loc} {cells slots : Nat} {Q : State → Prop}
variable {mc ms : Nat} {free : Addr → Prop} {A0 A1 : Nat → Prop} {H0 : Heap} {a : Array Value} {pc : Nat} {ls : Array Slot} {st0 rest : List Value}
theorem vx_keep {st₀ t T' : State} {L : List Loc} (h0 : st₀.heap = H) (e1 : T'.heap = t.heap) (hS : va_S A0 H0 H locs) (hA : ∀ q, q < H.size → A1 q → A0 q) (hf : ∀ q, free q → A0 q) (hL : ∀ q ∈ L, free q.base) (hF : va_F A1 st₀ t) :
    H.size ≤ T'.heap.size ∧ (∀ q : Nat, q < H.size → ¬ A1 q → T'.heap[q]? = H[q]?) ∧ va_S A0 H0 T'.heap (locs ++ L) := by
  obtain ⟨hz, hk⟩ := hF
  rw [h0] at hz hk
  exact ⟨by rw [e1]; exact hz, fun q h1 h2 => by rw [e1]; exact hk q h1 h2,
    ⟨Nat.le_trans hS.1 (by rw [e1]; exact hz), fun q h1 h2 => by rw [e1, hk q (Nat.lt_of_lt_of_le h1 hS.1) (fun z => h2 (hA q (Nat.lt_of_lt_of_le h1 hS.1) z))]; exact hS.2.1 q h1 h2, fun q hq => by
      rcases List.mem_append.mp hq with h | h
      · exact hS.2.2 q h
      · exact hf _ (hL q h)⟩⟩
theorem vx_calli {S SX : Type} {post : Int32 → S → Prop} {px : SX → Prop} {B : S → State → Prop} {BX : String → SX → State → Prop} {AX : Nat → Prop} (hr : vx_Run p l e R s m args below meth c H locs cells slots mc ms (F0 m pc ls st0) rest (va_Qi post B A1 a) (vx_X px BX AX) free) (hS : va_S A0 H0 H locs) (hA : ∀ q, q < H.size → A1 q → A0 q) (hf : ∀ q, free q → A0 q) (hAX : ∀ q, q < H.size → AX q → A0 q)
    (kx : ∀ (E : String) (ce : Cell) (q9 : Addr) (u : SX) (t : State) (H1 : Heap) (locs1 : List Loc), t.heap = H1 → s.vm.Alike t.vm → px u → BX E u t → H.size ≤ H1.size → (∀ q : Nat, q < H.size → ¬ AX q → H1[q]? = H[q]?) → va_S A0 H0 H1 locs1 → H1[q9]? = some ce → ce.vm = .none → s.vm.findClass E = some ce.cls → vx_W p l e R s m args below meth c H1 locs1 (cells + mc) (slots + ms) Q (F0 m pc ls rest) q9)
    (kk : ∀ (r : Int32) (u : S) (t : State) (H1 : Heap) (locs1 : List Loc), t.heap = H1 → s.vm.Alike t.vm → post r u → B u t → H.size ≤ H1.size → (∀ q : Nat, q < H.size → ¬ A1 q → H1[q]? = H[q]?) → va_S A0 H0 H1 locs1 → W p l e R s m args below meth c H1 locs1 (cells + mc) (slots + ms) Q (F0 m (pc + 3) ls (.int r :: rest))) : W p l e R s m args below meth c H locs cells slots Q (F0 m pc ls st0) := by
  intro T hT X
  rcases hr T hT X with ⟨v, st₀, t, T', L, h0, X', hL, e1, e2, ⟨⟨r, u, hv, hp, hb⟩, hF⟩, st⟩ | ⟨q, st₀, t, T', L, E, ce, h0, X', hL, e1, e2, ⟨u, hp, hb, hF⟩, hce, hcv, hcl, st⟩
  · cases hv
    obtain ⟨k1, k2, k3⟩ := vx_keep h0 e1 hS hA hf hL hF
    obtain ⟨t2, a1, b1⟩ := kk r u t T'.heap (locs ++ L) e1.symm (by rw [← e2]; exact X'.warmed.alike) hp hb k1 k2 k3 T' rfl X'
    exact ⟨t2, st t2 a1, b1⟩
  · obtain ⟨k1, k2, k3⟩ := vx_keep h0 e1 hS hAX hf hL hF
    obtain ⟨t2, a1, b1⟩ := kx E ce q u t T'.heap (locs ++ L) e1.symm (by rw [← e2]; exact X'.warmed.alike) hp hb k1 k2 k3 (by rw [e1]; exact hce) hcv hcl T' rfl X'
    exact ⟨t2, st.trans a1, b1⟩
theorem vx_calll {S SX : Type} {post : Int64 → S → Prop} {px : SX → Prop} {B : S → State → Prop} {BX : String → SX → State → Prop} {AX : Nat → Prop} (hr : vx_Run p l e R s m args below meth c H locs cells slots mc ms (F0 m pc ls st0) rest (va_Ql post B A1 a) (vx_X px BX AX) free) (hS : va_S A0 H0 H locs) (hA : ∀ q, q < H.size → A1 q → A0 q) (hf : ∀ q, free q → A0 q) (hAX : ∀ q, q < H.size → AX q → A0 q)
    (kx : ∀ (E : String) (ce : Cell) (q9 : Addr) (u : SX) (t : State) (H1 : Heap) (locs1 : List Loc), t.heap = H1 → s.vm.Alike t.vm → px u → BX E u t → H.size ≤ H1.size → (∀ q : Nat, q < H.size → ¬ AX q → H1[q]? = H[q]?) → va_S A0 H0 H1 locs1 → H1[q9]? = some ce → ce.vm = .none → s.vm.findClass E = some ce.cls → vx_W p l e R s m args below meth c H1 locs1 (cells + mc) (slots + ms) Q (F0 m pc ls rest) q9)
    (kk : ∀ (r : Int64) (u : S) (t : State) (H1 : Heap) (locs1 : List Loc), t.heap = H1 → s.vm.Alike t.vm → post r u → B u t → H.size ≤ H1.size → (∀ q : Nat, q < H.size → ¬ A1 q → H1[q]? = H[q]?) → va_S A0 H0 H1 locs1 → W p l e R s m args below meth c H1 locs1 (cells + mc) (slots + ms) Q (F0 m (pc + 3) ls (.long r :: rest))) : W p l e R s m args below meth c H locs cells slots Q (F0 m pc ls st0) := by
  intro T hT X
  rcases hr T hT X with ⟨v, st₀, t, T', L, h0, X', hL, e1, e2, ⟨⟨r, u, hv, hp, hb⟩, hF⟩, st⟩ | ⟨q, st₀, t, T', L, E, ce, h0, X', hL, e1, e2, ⟨u, hp, hb, hF⟩, hce, hcv, hcl, st⟩
  · cases hv
    obtain ⟨k1, k2, k3⟩ := vx_keep h0 e1 hS hA hf hL hF
    obtain ⟨t2, a1, b1⟩ := kk r u t T'.heap (locs ++ L) e1.symm (by rw [← e2]; exact X'.warmed.alike) hp hb k1 k2 k3 T' rfl X'
    exact ⟨t2, st t2 a1, b1⟩
  · obtain ⟨k1, k2, k3⟩ := vx_keep h0 e1 hS hAX hf hL hF
    obtain ⟨t2, a1, b1⟩ := kx E ce q u t T'.heap (locs ++ L) e1.symm (by rw [← e2]; exact X'.warmed.alike) hp hb k1 k2 k3 (by rw [e1]; exact hce) hcv hcl T' rfl X'
    exact ⟨t2, st.trans a1, b1⟩
theorem vx_callf {S SX : Type} {post : UInt32 → S → Prop} {px : SX → Prop} {B : S → State → Prop} {BX : String → SX → State → Prop} {AX : Nat → Prop} (hr : vx_Run p l e R s m args below meth c H locs cells slots mc ms (F0 m pc ls st0) rest (va_Qf post B A1 a) (vx_X px BX AX) free) (hS : va_S A0 H0 H locs) (hA : ∀ q, q < H.size → A1 q → A0 q) (hf : ∀ q, free q → A0 q) (hAX : ∀ q, q < H.size → AX q → A0 q)
    (kx : ∀ (E : String) (ce : Cell) (q9 : Addr) (u : SX) (t : State) (H1 : Heap) (locs1 : List Loc), t.heap = H1 → s.vm.Alike t.vm → px u → BX E u t → H.size ≤ H1.size → (∀ q : Nat, q < H.size → ¬ AX q → H1[q]? = H[q]?) → va_S A0 H0 H1 locs1 → H1[q9]? = some ce → ce.vm = .none → s.vm.findClass E = some ce.cls → vx_W p l e R s m args below meth c H1 locs1 (cells + mc) (slots + ms) Q (F0 m pc ls rest) q9)
    (kk : ∀ (r : UInt32) (u : S) (t : State) (H1 : Heap) (locs1 : List Loc), t.heap = H1 → s.vm.Alike t.vm → post r u → B u t → H.size ≤ H1.size → (∀ q : Nat, q < H.size → ¬ A1 q → H1[q]? = H[q]?) → va_S A0 H0 H1 locs1 → W p l e R s m args below meth c H1 locs1 (cells + mc) (slots + ms) Q (F0 m (pc + 3) ls (.float r :: rest))) : W p l e R s m args below meth c H locs cells slots Q (F0 m pc ls st0) := by
  intro T hT X
  rcases hr T hT X with ⟨v, st₀, t, T', L, h0, X', hL, e1, e2, ⟨⟨r, u, hv, hp, hb⟩, hF⟩, st⟩ | ⟨q, st₀, t, T', L, E, ce, h0, X', hL, e1, e2, ⟨u, hp, hb, hF⟩, hce, hcv, hcl, st⟩
  · cases hv
    obtain ⟨k1, k2, k3⟩ := vx_keep h0 e1 hS hA hf hL hF
    obtain ⟨t2, a1, b1⟩ := kk r u t T'.heap (locs ++ L) e1.symm (by rw [← e2]; exact X'.warmed.alike) hp hb k1 k2 k3 T' rfl X'
    exact ⟨t2, st t2 a1, b1⟩
  · obtain ⟨k1, k2, k3⟩ := vx_keep h0 e1 hS hAX hf hL hF
    obtain ⟨t2, a1, b1⟩ := kx E ce q u t T'.heap (locs ++ L) e1.symm (by rw [← e2]; exact X'.warmed.alike) hp hb k1 k2 k3 (by rw [e1]; exact hce) hcv hcl T' rfl X'
    exact ⟨t2, st.trans a1, b1⟩
theorem vx_calld {S SX : Type} {post : UInt64 → S → Prop} {px : SX → Prop} {B : S → State → Prop} {BX : String → SX → State → Prop} {AX : Nat → Prop} (hr : vx_Run p l e R s m args below meth c H locs cells slots mc ms (F0 m pc ls st0) rest (va_Qd post B A1 a) (vx_X px BX AX) free) (hS : va_S A0 H0 H locs) (hA : ∀ q, q < H.size → A1 q → A0 q) (hf : ∀ q, free q → A0 q) (hAX : ∀ q, q < H.size → AX q → A0 q)
    (kx : ∀ (E : String) (ce : Cell) (q9 : Addr) (u : SX) (t : State) (H1 : Heap) (locs1 : List Loc), t.heap = H1 → s.vm.Alike t.vm → px u → BX E u t → H.size ≤ H1.size → (∀ q : Nat, q < H.size → ¬ AX q → H1[q]? = H[q]?) → va_S A0 H0 H1 locs1 → H1[q9]? = some ce → ce.vm = .none → s.vm.findClass E = some ce.cls → vx_W p l e R s m args below meth c H1 locs1 (cells + mc) (slots + ms) Q (F0 m pc ls rest) q9)
    (kk : ∀ (r : UInt64) (u : S) (t : State) (H1 : Heap) (locs1 : List Loc), t.heap = H1 → s.vm.Alike t.vm → post r u → B u t → H.size ≤ H1.size → (∀ q : Nat, q < H.size → ¬ A1 q → H1[q]? = H[q]?) → va_S A0 H0 H1 locs1 → W p l e R s m args below meth c H1 locs1 (cells + mc) (slots + ms) Q (F0 m (pc + 3) ls (.double r :: rest))) : W p l e R s m args below meth c H locs cells slots Q (F0 m pc ls st0) := by
  intro T hT X
  rcases hr T hT X with ⟨v, st₀, t, T', L, h0, X', hL, e1, e2, ⟨⟨r, u, hv, hp, hb⟩, hF⟩, st⟩ | ⟨q, st₀, t, T', L, E, ce, h0, X', hL, e1, e2, ⟨u, hp, hb, hF⟩, hce, hcv, hcl, st⟩
  · cases hv
    obtain ⟨k1, k2, k3⟩ := vx_keep h0 e1 hS hA hf hL hF
    obtain ⟨t2, a1, b1⟩ := kk r u t T'.heap (locs ++ L) e1.symm (by rw [← e2]; exact X'.warmed.alike) hp hb k1 k2 k3 T' rfl X'
    exact ⟨t2, st t2 a1, b1⟩
  · obtain ⟨k1, k2, k3⟩ := vx_keep h0 e1 hS hAX hf hL hF
    obtain ⟨t2, a1, b1⟩ := kx E ce q u t T'.heap (locs ++ L) e1.symm (by rw [← e2]; exact X'.warmed.alike) hp hb k1 k2 k3 (by rw [e1]; exact hce) hcv hcl T' rfl X'
    exact ⟨t2, st.trans a1, b1⟩
theorem vx_callv {S SX : Type} {post : S → Prop} {px : SX → Prop} {B : S → State → Prop} {BX : String → SX → State → Prop} {AX : Nat → Prop} (hr : vx_Run p l e R s m args below meth c H locs cells slots mc ms (F0 m pc ls st0) rest (va_Qv post B A1 a) (vx_X px BX AX) free) (hS : va_S A0 H0 H locs) (hA : ∀ q, q < H.size → A1 q → A0 q) (hf : ∀ q, free q → A0 q) (hAX : ∀ q, q < H.size → AX q → A0 q)
    (kx : ∀ (E : String) (ce : Cell) (q9 : Addr) (u : SX) (t : State) (H1 : Heap) (locs1 : List Loc), t.heap = H1 → s.vm.Alike t.vm → px u → BX E u t → H.size ≤ H1.size → (∀ q : Nat, q < H.size → ¬ AX q → H1[q]? = H[q]?) → va_S A0 H0 H1 locs1 → H1[q9]? = some ce → ce.vm = .none → s.vm.findClass E = some ce.cls → vx_W p l e R s m args below meth c H1 locs1 (cells + mc) (slots + ms) Q (F0 m pc ls rest) q9)
    (kk : ∀ (u : S) (t : State) (H1 : Heap) (locs1 : List Loc), t.heap = H1 → s.vm.Alike t.vm → post u → B u t → H.size ≤ H1.size → (∀ q : Nat, q < H.size → ¬ A1 q → H1[q]? = H[q]?) → va_S A0 H0 H1 locs1 → W p l e R s m args below meth c H1 locs1 (cells + mc) (slots + ms) Q (F0 m (pc + 3) ls (rest))) : W p l e R s m args below meth c H locs cells slots Q (F0 m pc ls st0) := by
  intro T hT X
  rcases hr T hT X with ⟨v, st₀, t, T', L, h0, X', hL, e1, e2, ⟨⟨u, hv, hp, hb⟩, hF⟩, st⟩ | ⟨q, st₀, t, T', L, E, ce, h0, X', hL, e1, e2, ⟨u, hp, hb, hF⟩, hce, hcv, hcl, st⟩
  · cases hv
    obtain ⟨k1, k2, k3⟩ := vx_keep h0 e1 hS hA hf hL hF
    obtain ⟨t2, a1, b1⟩ := kk u t T'.heap (locs ++ L) e1.symm (by rw [← e2]; exact X'.warmed.alike) hp hb k1 k2 k3 T' rfl X'
    exact ⟨t2, st t2 a1, b1⟩
  · obtain ⟨k1, k2, k3⟩ := vx_keep h0 e1 hS hAX hf hL hF
    obtain ⟨t2, a1, b1⟩ := kx E ce q u t T'.heap (locs ++ L) e1.symm (by rw [← e2]; exact X'.warmed.alike) hp hb k1 k2 k3 (by rw [e1]; exact hce) hcv hcl T' rfl X'
    exact ⟨t2, st.trans a1, b1⟩
/-- caught by the row x of this method's table; the rows ahead don't take it -/
theorem vx_catch {own name : String} {E : String} {ce : Cell} {q : Addr} (hown : s.vm.findClass own = some m.cls) (pre : List ExceptionTableEntry) (x : ExceptionTableEntry) (suf : List ExceptionTableEntry) (hsplit : c.exceptionTable.toList = pre ++ x :: suf)
    (hpass : ∀ z ∈ pre, covers z pc = false ∨ (z.catchType ≠ 0 ∧ ∃ nm : String, (Cond.classLink own z.catchType nm).before args s = true ∧ va_Nc E nm s)) (hx : covers x pc = true) (h0 : x.catchType ≠ 0)
    (hlink : (Cond.classLink own x.catchType name).before args s = true) (hcast : (Cond.castable E name).before args s = true) (hcell : H[q]? = some ce) (hv : ce.vm = .none) (hcl : s.vm.findClass E = some ce.cls)
    (kk : W p l e R s m args below meth c H locs cells slots Q (F0 m x.handlerPc ls [.ref q])) : vx_W p l e R s m args below meth c H locs cells slots Q (F0 m pc ls rest) q := by
  intro T hT X
  have hpl : e.platform.magicAccessors = ({} : Platform).magicAccessors := by rw [X.admits.platform]
  obtain ⟨c3, c4, hc3, hc4, hasg⟩ := Cond.castable_spec hcast
  cases Option.some.inj (hc3.symm.trans hcl)
  obtain ⟨c5, hc5, hcl5⟩ := Cond.classLink_spec hown hlink e.platform hpl
  cases Option.some.inj (hc4.symm.trans hc5)
  have hk9 : ∃ k9, s.vm.classes[ce.cls]? = some k9 := by obtain ⟨k9, h9, -⟩ := Vm.findClass_spec hcl; exact ⟨k9, h9⟩
  obtain ⟨vm', X', st⟩ := xk_caught X q (g := F0 m pc ls rest) rfl (by rw [hT]; exact hcell) (fun z h => by rw [hv] at h; cases h) hk9 pre x suf hsplit
    (fun z hz => by
      rcases hpass z hz with h | ⟨hz0, nm, hl1, hn1⟩
      · exact Or.inl h
      · obtain ⟨c6, hc6, hcl6⟩ := Cond.classLink_spec hown hl1 e.platform hpl
        obtain ⟨a8, b8, h1, h2, h3⟩ := hn1
        cases Option.some.inj (h1.symm.trans hcl)
        cases Option.some.inj (h2.symm.trans hc6)
        exact Or.inr ⟨hz0, _, hcl6, h3⟩) hx h0 hcl5 hasg
  obtain ⟨t, a1, b1⟩ := kk (T.setVm vm') hT X'
  exact ⟨t, st.trans a1, b1⟩
end Rows
section Ends
variable {p : Program} {l : Launch} {e : Env} {R : Room} {s : State} {m : MethodId} {args : Array Value} {below : List Frame} {meth : Method} {c : Code} {H : Heap} {locs : List Loc} {cells slots : Nat} {Q : State → Prop}
variable {mc ms : Nat} {free : Addr → Prop} {A0 A1 : Nat → Prop} {H0 : Heap} {a : Array Value} {ls : Array Slot} {st0 rest : List Value}
variable {Qc : Array Value → State → Outcome → State → Prop} {XC : String → State → State → Prop}
/-- what a body that may throw owes at its end -/
def vx_MQ (below : List Frame) (Qc : Array Value → State → Outcome → State → Prop) (XC : String → State → State → Prop) (a : Array Value) (s : State) (mc ms : Nat) (free : Addr → Prop) : State → Prop := fun t =>
  ∃ o, t.status = .running ∧ Ended t below o ∧ vx_Q Qc XC mc ms free a s o t
theorem vx_ret {g : JFrame} {mc ms : Nat} (k : W p l e R s m args below meth c H locs cells slots (MQ below Qc args s mc ms free) g) : W p l e R s m args below meth c H locs cells slots (vx_MQ below Qc XC args s mc ms free) g := by
  intro T hT X
  obtain ⟨t, a1, o, b1, b2, b3, b4⟩ := k T hT X
  exact ⟨t, a1, o, b1, b2, Or.inl ⟨b3, b4⟩⟩
/-- not caught here: it goes on to the caller -/
theorem vx_widen {g : JFrame} {q : Addr} {k n : Nat} (h1 : cells ≤ k) (h2 : slots ≤ n) (kk : vx_W p l e R s m args below meth c H locs k n Q g q) : vx_W p l e R s m args below meth c H locs cells slots Q g q := fun T hT X => kk T hT (stand_widen X h1 h2)
theorem vx_out {pc : Nat} {E : String} {ce : Cell} {q : Addr} {mc ms : Nat} (hout : ∀ x ∈ c.exceptionTable.toList, covers x pc = false) (hlocks : meth.locks = false) (hcell : H[q]? = some ce) (hv : ce.vm = .none) (hcl : s.vm.findClass E = some ce.cls)
    (hx : ∀ t : State, t.heap = H → s.vm.Alike t.vm → XC E s t) (hf : ∀ z ∈ locs, free z.base) (hc : cells ≤ mc) (hs : slots ≤ ms) :
    vx_W p l e R s m args below meth c H locs cells slots (vx_MQ below Qc XC args s mc ms free) (F0 m pc ls rest) q := by
  intro T hT X
  obtain ⟨st1, hrun, hend, hW, hsm⟩ := X.leaveThrown q (g := F0 m pc ls rest) rfl rfl rfl hout hlocks
  have hcell9 : (T.setFrames (.throwing q :: below)).heap[q]? = some ce := by
    show T.heap[q]? = some ce
    rw [hT]; exact hcell
  exact ⟨_, st1, .threw q, hrun, hend, Or.inr ⟨q, rfl, E, ce, locs, hx _ hT hW.alike, hcell9, hv, hcl, hW, hsm.mono hc hs, hf⟩⟩
theorem vx_frame {U : State} {k n : Nat} (h : s.sameButNew ({ U with vm := s.vm } : State) locs k n) : s.heap.size ≤ U.heap.size ∧ ∀ q : Nat, q < s.heap.size → (∀ z ∈ locs, z.base ≠ q) → U.heap[q]? = s.heap[q]? := by
  obtain ⟨-, h2, -, -, -, h6⟩ := h
  refine ⟨h2, fun q hq hz => ?_⟩
  obtain ⟨c9, e1, e2, e3, e4⟩ := h6 q _ (Array.getElem?_eq_getElem hq)
  have hs : c9.slots = (s.heap[q]).slots := Array.ext_getElem? fun i => e4 i fun hm => hz _ hm rfl
  have h9 : c9 = s.heap[q] := by
    rw [hs] at e2
    exact e2
  have e5 : U.heap[q]? = some c9 := e1
  rw [e5, h9, Array.getElem?_eq_getElem hq]
/-- the words of a throw but the four that speak of the heap -/
def vx_no (w : Cond) : Bool := decide (w ≠ .isRef (.static Bundle.tN "UNASSIGNED_STACK" Bundle.steD)) && decide (w ≠ .isRef (.static Bundle.tN "SUPPRESSED_SENTINEL" Bundle.listD)) && decide (w ≠ .laysStatic Bundle.tN "UNASSIGNED_STACK" Bundle.steD) && decide (w ≠ .laysStatic Bundle.tN "SUPPRESSED_SENTINEL" Bundle.listD)
def vx_at0 (own : String) (ic : Nat) (X : String) (names : List String) : List Cond := (Bundle.ownAtoms0 own ic X names).filter vx_no
def vx_atS (own : String) (ic : Nat) (X : String) (names : List String) : List Cond := (Bundle.ownAtoms own ic X names).filter vx_no
/-- a word that the tables alone decide, or a good one -/
def vx_ot (w : Cond) : Bool := w.onTables || goodWord w
theorem vx_ot_at {args a' : Array Value} {s U : State} {w : Cond} (hW : s.WarmedH U.vm) (hvm : s.vm = U.vm) (hg : vx_ot w = true) (h : w.before args s = true) : w.before a' U = true := by
  simp only [vx_ot, Bool.or_eq_true] at hg
  rcases hg with hg | hg
  · exact va_tabs hg hvm h
  · exact word_at hW (good_of_word hg) h
/-- a list's words: the good ones out of the method's own list, the others by premises of their own -/
theorem vx_hat {args : Array Value} {s : State} {L B : List Cond} (h1 : ∀ w ∈ L.filter goodWord, w.before args s = true) (h2 : ∀ w ∈ L.filter (fun w => !goodWord w), w ∈ B) (h3 : ∀ w ∈ B, w.before args s = true) : ∀ w ∈ L, w.before args s = true := by
  intro w hw
  by_cases g : goodWord w = true
  · exact h1 w (List.mem_filter.mpr ⟨hw, g⟩)
  · refine h3 w (h2 w (List.mem_filter.mpr ⟨hw, ?_⟩))
    show (!goodWord w) = true
    cases hgw : goodWord w
    · rfl
    · exact absurd hgw g
theorem vx_c {args : Array Value} {s : State} {w : Cond} {B : List Cond} (h : w.before args s = true) (t : ∀ w ∈ B, w.before args s = true) : ∀ w' ∈ w :: B, w'.before args s = true := fun w' h' => (List.mem_cons.mp h').elim (fun e => by rw [e]; exact h) (t w')
theorem vx_n {args : Array Value} {s : State} : ∀ w ∈ ([] : List Cond), w.before args s = true := fun _ h => nomatch h
theorem vx_own {args : Array Value} {s : State} {L : List Cond} (h1 : ∀ w ∈ L.filter vx_no, w.before args s = true)
    (hU : (Cond.isRef (.static Bundle.tN "UNASSIGNED_STACK" Bundle.steD)).before args s = true) (hN : (Cond.isRef (.static Bundle.tN "SUPPRESSED_SENTINEL" Bundle.listD)).before args s = true)
    (lU : (Cond.laysStatic Bundle.tN "UNASSIGNED_STACK" Bundle.steD).before args s = true) (lN : (Cond.laysStatic Bundle.tN "SUPPRESSED_SENTINEL" Bundle.listD).before args s = true) : ∀ w ∈ L, w.before args s = true := by
  intro w hw
  by_cases e1 : w = .isRef (.static Bundle.tN "UNASSIGNED_STACK" Bundle.steD)
  · rw [e1]; exact hU
  · by_cases e2 : w = .isRef (.static Bundle.tN "SUPPRESSED_SENTINEL" Bundle.listD)
    · rw [e2]; exact hN
    · by_cases e3 : w = .laysStatic Bundle.tN "UNASSIGNED_STACK" Bundle.steD
      · rw [e3]; exact lU
      · by_cases e4 : w = .laysStatic Bundle.tN "SUPPRESSED_SENTINEL" Bundle.listD
        · rw [e4]; exact lN
        · exact h1 w (List.mem_filter.mpr ⟨hw, by unfold vx_no; rw [decide_eq_true e1, decide_eq_true e2, decide_eq_true e3, decide_eq_true e4]; rfl⟩)
/-- where a static field lies, its class's statics cell in H -/
def vx_L (C n d : String) (A : Nat → Prop) (U : State) (H : Heap) : Prop := ∃ (c : ClassId) (k : Class) (i : Nat) (f : Field) (a : Nat) (cell : Cell), U.vm.findClass C = some c ∧ U.fieldFound? C n d = some (c, k, i, f) ∧ f.isStatic = true ∧ k.statics = some a ∧ H[a]? = some cell ∧ cell.vm.isStatics = true ∧ cell.cls = c ∧ f.slot < cell.slots.size ∧ k.staticTypes[f.slot]? = some f.type ∧ ¬ A a
theorem vx_L.moved {C n d : String} {A : Nat → Prop} {u U : State} {H : Heap} (hvm : u.vm.Alike U.vm) (h : vx_L C n d A u H) : vx_L C n d A U H := by
  obtain ⟨c, k, i, f, a, cell, h1, h2, h3, h4, h5, h6, h7, h8, h9, h10⟩ := h
  obtain ⟨k', hi', he⟩ := State.fieldFound?_setVm hvm h2
  exact ⟨c, k', i, f, a, cell, by rw [hvm.findClass]; exact h1, hi', h3, by rw [he]; exact h4, h5, h6, h7, h8, by rw [he]; exact h9, h10⟩
theorem vx_L.kept {C n d : String} {A : Nat → Prop} {U : State} {H H1 : Heap} (h : vx_L C n d A U H) (hq : ∀ a : Nat, a < H.size → ¬ A a → H1[a]? = H[a]?) : vx_L C n d A U H1 := by
  obtain ⟨c, k, i, f, a, cell, h1, h2, h3, h4, h5, h6, h7, h8, h9, h10⟩ := h
  exact ⟨c, k, i, f, a, cell, h1, h2, h3, h4, by rw [hq a (Array.getElem?_eq_some_iff.mp h5).1 h10]; exact h5, h6, h7, h8, h9, h10⟩
theorem vx_L.narrow {C n d : String} {A B : Nat → Prop} {U : State} {H : Heap} (h : vx_L C n d A U H) (hAB : ∀ q, B q → A q) : vx_L C n d B U H := by
  obtain ⟨c, k, i, f, a, cell, h1, h2, h3, h4, h5, h6, h7, h8, h9, h10⟩ := h
  exact ⟨c, k, i, f, a, cell, h1, h2, h3, h4, h5, h6, h7, h8, h9, fun z => h10 (hAB _ z)⟩
theorem vx_L.word {C n d : String} {A : Nat → Prop} {s : State} {args : Array Value} (h : vx_L C n d A s s.heap) : (Cond.laysStatic C n d).before args s = true := by
  obtain ⟨c, k, i, f, a, cell, h1, h2, h3, h4, h5, h6, h7, h8, h9, -⟩ := h
  show (Cond.laysStatic C n d).holds args s none s [] = true
  exact Cond.laysStatic_of h1 h2 h3 h4 h5 h6 h7 h8 h9
/-- .. and what it holds: null or some reference -/
def vx_Zq (C n d : String) (A : Nat → Prop) (U : State) (H : Heap) : Prop := va_Zq C n d A U H ∧ vx_L C n d A U H
theorem vx_Zq.moved {C n d : String} {A : Nat → Prop} {u U : State} {H : Heap} (hvm : u.vm.Alike U.vm) (h : vx_Zq C n d A u H) : vx_Zq C n d A U H := ⟨va_Zq.moved hvm h.1, vx_L.moved hvm h.2⟩
theorem vx_Zq.kept {C n d : String} {A : Nat → Prop} {U : State} {H H1 : Heap} (h : vx_Zq C n d A U H) (hq : ∀ a : Nat, a < H.size → ¬ A a → H1[a]? = H[a]?) : vx_Zq C n d A U H1 := ⟨va_Zq.kept h.1 hq, vx_L.kept h.2 hq⟩
theorem vx_Zq.narrow {C n d : String} {A B : Nat → Prop} {U : State} {H : Heap} (h : vx_Zq C n d A U H) (hAB : ∀ q, B q → A q) : vx_Zq C n d B U H := ⟨va_Zq.narrow h.1 hAB, vx_L.narrow h.2 hAB⟩
theorem vx_Zqof {args : Array Value} {s : State} {C n d : String} {A : Nat → Prop} (hl : (Cond.laysStatic C n d).before args s = true) (hini : (Cond.initialized C).before args s = true) (h : (Cond.isRef (.static C n d)).before args s = true) (hA : ∀ a : Nat, a < s.heap.size → ¬ A a) : vx_Zq C n d A s s.heap := by
  refine ⟨va_Zqof hl hini h hA, ?_⟩
  obtain ⟨c, k, i, f, a, cell, h1, h2, h3, h4, h5, h6, h7, h8, h9⟩ := Cond.laysStatic_spec hl
  exact ⟨c, k, i, f, a, cell, h1, h2, h3, h4, h5, h6, h7, h8, h9, hA a (Array.getElem?_eq_some_iff.mp h5).1⟩
theorem vx_isRef {C n d : String} {v : Value} {A : Nat → Prop} {s : State} {args : Array Value} (h : va_Z C n d v A s s.heap) (hv : v.isRef = true) : (Cond.isRef (.static C n d)).before args s = true := by
  obtain ⟨cf, kf, fi, f, a, cell, h1, h2, h3, h4, h5, h6, h7, -⟩ := h
  have he : (Term.static C n d).eval args s none [] s = some v := by
    simp [Term.eval, State.fieldNamed?, h1, h2, h4, h5, h6, h7]
  simp only [Cond.before, Cond.holds, Cond.value, he]
  cases v <;> simp_all [Value.isRef]
theorem vx_isRefq {C n d : String} {A : Nat → Prop} {s : State} {args : Array Value} (h : va_Zq C n d A s s.heap) : (Cond.isRef (.static C n d)).before args s = true := by
  rcases h with h | ⟨t, h⟩
  · exact vx_isRef h rfl
  · exact vx_isRef h rfl
/-- the same frame, seen from here: as if the method were called anew in this heap -/
theorem vx_rebase {T : State} (X : Stand p l e R s m args below meth c T locs cells slots) {R' : Room} (hf : R'.frames ≤ R.frames) (hl : R'.locals ≤ R.locals) (hc : cells + R'.cells ≤ R.cells) (hs : slots + R'.slots ≤ R.slots) :
    Stand p l e R' ((T.setVm s.vm).setFrames (.invoking m args :: below)) m args below meth c T [] 0 0 := by
  have htop : (T.setVm s.vm).topJava?.isSome := X.here.top
  have hF : ((T.setVm s.vm).setFrames (.invoking m args :: below)).frames = .invoking m args :: below := State.frames_setFrames _ (State.cur_lt_of_top htop)
  obtain ⟨g₀, hg0⟩ := Option.isSome_iff_exists.mp htop
  obtain ⟨r, hr⟩ := State.topJava?_eq_some.mp hg0
  have hl9 : e.platform.stackLimits (T.setVm s.vm).me = e.platform.stackLimits s.me := X.limits
  have hb9 : (T.setVm s.vm).me.stackBytes = s.me.stackBytes := X.bytes
  refine ⟨X.admits, X.cas, X.clock, hF, ?_, X.hears, X.method, X.code, X.here, X.tail, X.warmed, ?_, ?_, ?_⟩
  · have h := X.room
    have hU : ((T.setVm s.vm).setFrames (.invoking m args :: below)).localsInUse = s.localsInUse := by
      rw [State.localsInUse_invoking hF (meth := meth) (c := c) X.method X.code, State.localsInUse_invoking X.frames X.method X.code]
    simp only [State.hasRoom, Bool.and_eq_true, decide_eq_true_eq] at h ⊢
    obtain ⟨⟨⟨⟨h1, h2, h3, h4, h5, h6⟩, h7⟩, h8⟩, h9⟩ := h
    rw [X.frames, List.length_cons] at h2 h3
    have q1 := X.heapSize
    have q2 := X.used
    simp only [hF, hU, List.length_cons, State.stackLimits_setFrames, State.stackBytes_setFrames, hl9, hb9]
    refine ⟨⟨⟨⟨by omega, by omega, by omega, by omega, by omega, h6⟩, ?_⟩, ?_⟩, X.book⟩
    · show T.heap.size + R'.cells ≤ e.platform.maxCells
      omega
    · show T.slotsUsed + R'.slots ≤ e.platform.maxSlots
      omega
  · rw [State.stackLimits_setFrames]; rfl
  · rw [State.stackBytes_setFrames]; rfl
  · refine ⟨?_, Nat.le_refl _, Nat.le_refl _, ?_, ?_, fun a c9 h9 => ⟨c9, h9, rfl, rfl, fun _ _ => rfl⟩⟩
    · obtain ⟨t, ht, -⟩ := State.frames_cons hr
      show T.setVm s.vm = { ((T.setVm s.vm).setFrames (.invoking m args :: below)).setFrames (T.setVm s.vm).frames with heap := T.heap, slotsUsed := T.slotsUsed }
      rw [State.setFrames_setFrames, State.setFrames_self ht]
      rfl
    · show T.slotsUsed = T.slotsUsed + ((T.heap.toList.drop T.heap.size).map (·.slots.size)).sum
      rw [List.drop_eq_nil_of_le (Nat.le_of_eq Array.length_toList)]
      rfl
    · show ((T.heap.toList.drop T.heap.size).map (·.slots.size)).sum ≤ 0
      rw [List.drop_eq_nil_of_le (Nat.le_of_eq Array.length_toList)]
      exact Nat.le_refl _
/-- 'throw new E()': new; dup; invokespecial; athrow -/
theorem vx_throw0 {cc : ByteArray} {pc : Nat} (hexec : p.tables.exec = Jvm.exec) (hb : c.code = cc) (hl : l.stackTraces = false) {own cls : String} {names : List String} {ik ic mc ms : Nat} {A : Nat → Prop}
    (hown : s.vm.findClass own = some m.cls) (hcls : Bundle.fit cls = true) (hnames : ∀ n ∈ names, Bundle.fit n = true)
    (hk : (Cond.classLink own ik cls).before args s = true) (hini : (Cond.initialized cls).before args s = true) (hat : ∀ w ∈ vx_at0 own ic cls names, w.before args s = true)
    (hgood : ∀ w ∈ Cond.classLink own ik cls :: Cond.initialized cls :: vx_at0 own ic cls names, vx_ot w = true)
    (hU : vx_Zq Bundle.tN "UNASSIGNED_STACK" Bundle.steD A s s.heap) (hN : vx_Zq Bundle.tN "SUPPRESSED_SENTINEL" Bundle.listD A s s.heap) (hS : va_S A s.heap H locs) (hsize : ls.size = c.maxLocals)
    (d0 : decode cc pc = .ok (.new ik, 3)) (d3 : decode cc (pc + 3) = .ok (.dup, 1)) (d4 : decode cc (pc + 4) = .ok (.invokespecial ic, 3)) (d7 : decode cc (pc + 7) = .ok (.athrow, 1))
    (hout : ∀ x ∈ c.exceptionTable.toList, covers x (pc + 7) = false)
    (hRframes : names.length + 3 < R.frames) (hRlocals : (rest.map fun v => v.category).sum + (13 * (names.length + 1) + 42) ≤ R.locals) (hRcells : cells + 1 ≤ R.cells) (hRslots : slots + 6 ≤ R.slots) (hlocks : meth.locks = false)
    (hx : ∀ t : State, s.vm.Alike t.vm → H.size ≤ t.heap.size → (∀ q : Nat, q < H.size → t.heap[q]? = H[q]?) → XC cls s t)
    (hf : ∀ z ∈ locs, free z.base) (hc : cells + 1 ≤ mc) (hs : slots + 6 ≤ ms) :
    W p l e R s m args below meth c H locs cells slots (vx_MQ below Qc XC args s mc ms free) (F0 m pc ls rest) := by
  intro T hT X
  have htr : e.platform.stackTraces = false := (show e.platform.stackTraces = l.stackTraces by rw [X.admits.platform]).trans hl
  have Y := vx_rebase X (R' := { frames := R.frames, locals := R.locals, cells := 1, slots := 6 }) (Nat.le_refl _) (Nat.le_refl _) hRcells hRslots
  obtain ⟨s', hA⟩ : ∃ z, z = (T.setVm s.vm).setFrames (.invoking m args :: below) := ⟨_, rfl⟩
  rw [← hA] at Y
  have hvm : s'.vm = s.vm := by rw [hA]; rfl
  have hhp : s'.heap = H := by rw [hA]; exact hT
  have hW0 : s.WarmedH s'.vm := by rw [hvm]; exact State.WarmedH.refl s
  have hat' : ∀ w ∈ vx_at0 own ic cls names, w.before args s' = true := fun w hw => vx_ot_at hW0 hvm.symm (hgood w (List.mem_cons_of_mem _ (List.mem_cons_of_mem _ hw))) (hat w hw)
  have hk' : (Cond.classLink own ik cls).before args s' = true := vx_ot_at hW0 hvm.symm (hgood _ List.mem_cons_self) hk
  have hini' : (Cond.initialized cls).before args s' = true := vx_ot_at hW0 hvm.symm (hgood _ (List.mem_cons_of_mem _ List.mem_cons_self)) hini
  have hU' : vx_Zq Bundle.tN "UNASSIGNED_STACK" Bundle.steD A s' s'.heap := by rw [hhp]; exact vx_Zq.moved hW0.alike (hU.kept hS.2.1)
  have hN' : vx_Zq Bundle.tN "SUPPRESSED_SENTINEL" Bundle.listD A s' s'.heap := by rw [hhp]; exact vx_Zq.moved hW0.alike (hN.kept hS.2.1)
  have h : ∀ w ∈ Bundle.ownAtoms0 own ic cls names, w.before args s' = true := vx_own hat' (vx_isRefq hU'.1) (vx_isRefq hN'.1) hU'.2.word hN'.2.word
  have hown' : s'.vm.findClass own = some m.cls := by rw [hvm]; exact hown
  have hins : (Cond.instantiable cls 6).before args s' = true := h _ (by simp [Bundle.ownAtoms0])
  obtain ⟨vm₁, cX, kX, hfX, hkX, -, -, X₁, st1⟩ := Y.newCold hexec (own := own) (C := cls) (index := ik) (n := 6) hown' hk' hins hini'
    (g := F0 m pc ls rest) rfl (by rw [hb]; exact d0) (Nat.le_refl _) (Nat.le_refl _)
  generalize hT1 : (T.setVm vm₁).pushCell { cls := cX, slots := kX.instanceTypes.map defaultValue, vm := .none } = T1 at X₁ st1
  have hcat : (Value.ref T.heap.size).category = 1 := rfl
  have hcellA : T1.heap[T.heap.size]? = some (freshCell cX kX) := by rw [← hT1]; exact State.heap_pushCell_size _ _
  have d3' : decode c.code (pc + 3) = .ok (.dup, 1) := by rw [hb]; exact d3
  obtain ⟨U, hsteps, hrun, hend, hW, hsame, ce, hce, hO⟩ := X₁.ctorThrow0 hexec htr (own := own) (cls := cls) (names := names) (ic := ic) hown' hcls hnames h (fun x hx => nomatch hx) hfX hkX hcellA (by rw [hhp, hT]; exact Nat.le_refl _)
    (g := { method := m, pc := pc + 4, locals := ls, stack := .ref T.heap.size :: .ref T.heap.size :: rest, locked := none }) rfl hsize rfl rfl (rest := rest) rfl
    (by rw [hb]; exact d4) (by rw [hb]; exact d7) hout hRframes (by simp only [List.map_cons, List.sum_cons, hcat]; omega) hlocks
  obtain ⟨f1, f2⟩ := vx_frame hsame
  rw [hhp] at f1 f2
  have hWs : s.WarmedH U.vm := State.WarmedH.trans hW0 hW
  have hcl : s.vm.findClass cls = some ce.cls := by
    have h9 := hO.cls
    rw [hvm] at h9
    exact h9
  have hall : s.sameButNew ({ U with vm := s.vm } : State) locs mc ms := by
    subst hA
    obtain ⟨e1, e2⟩ := hsame
    rw [State.setFrames_setFrames] at e1
    have h2 : (T.setVm s.vm).sameButNew ({ U with vm := s.vm } : State) [] (0 + 1) (0 + 6) := ⟨e1, e2⟩
    have h3 := X.same.trans h2
    rw [List.append_nil] at h3
    exact h3.mono hc hs
  refine ⟨U, ?_, .threw T.heap.size, hrun, hend, Or.inr ⟨T.heap.size, rfl, cls, ce, locs, hx U hWs.alike f1 (fun q hq => f2 q hq (fun z hz => nomatch hz)), hce, hO.vm, hcl, hWs, hall, hf⟩⟩
  refine st1 _ ?_
  show Steps p.tables e below (T1.setTop { method := m, pc := pc + 3, locals := ls, stack := .ref T.heap.size :: rest, locked := none }) _
  jvm_step X₁.here [X₁.here.top, hexec, d3', Value.category]
  exact hsteps
/-- 'throw new E("text")': new; dup; ldc; invokespecial; athrow -/
theorem vx_throwS {cc : ByteArray} {pc : Nat} (hexec : p.tables.exec = Jvm.exec) (hb : c.code = cc) (hl : l.stackTraces = false) {own cls text : String} {names : List String} {ik is ic mc ms sa : Nat} {A : Nat → Prop}
    (hown : s.vm.findClass own = some m.cls) (hcls : Bundle.fit cls = true) (hnames : ∀ n ∈ names, Bundle.fit n = true)
    (hk : (Cond.classLink own ik cls).before args s = true) (hini : (Cond.initialized cls).before args s = true) (hstr : vk_R own is text sa s) (hat : ∀ w ∈ vx_atS own ic cls names, w.before args s = true)
    (hgood : ∀ w ∈ Cond.classLink own ik cls :: Cond.initialized cls :: vx_atS own ic cls names, vx_ot w = true)
    (hU : vx_Zq Bundle.tN "UNASSIGNED_STACK" Bundle.steD A s s.heap) (hN : vx_Zq Bundle.tN "SUPPRESSED_SENTINEL" Bundle.listD A s s.heap) (hS : va_S A s.heap H locs) (hsize : ls.size = c.maxLocals)
    (d0 : decode cc pc = .ok (.new ik, 3)) (d3 : decode cc (pc + 3) = .ok (.dup, 1)) (d4 : decode cc (pc + 4) = .ok (.ldc is, 2)) (d6 : decode cc (pc + 6) = .ok (.invokespecial ic, 3)) (d9 : decode cc (pc + 9) = .ok (.athrow, 1))
    (hout : ∀ x ∈ c.exceptionTable.toList, covers x (pc + 9) = false)
    (hRframes : names.length + 3 < R.frames) (hRlocals : (rest.map fun v => v.category).sum + (13 * (names.length + 1) + 43) ≤ R.locals) (hRcells : cells + 1 ≤ R.cells) (hRslots : slots + 6 ≤ R.slots) (hlocks : meth.locks = false)
    (hx : ∀ t : State, s.vm.Alike t.vm → H.size ≤ t.heap.size → (∀ q : Nat, q < H.size → t.heap[q]? = H[q]?) → XC cls s t)
    (hf : ∀ z ∈ locs, free z.base) (hc : cells + 1 ≤ mc) (hs : slots + 6 ≤ ms) :
    W p l e R s m args below meth c H locs cells slots (vx_MQ below Qc XC args s mc ms free) (F0 m pc ls rest) := by
  intro T hT X
  have htr : e.platform.stackTraces = false := (show e.platform.stackTraces = l.stackTraces by rw [X.admits.platform]).trans hl
  have Y := vx_rebase X (R' := { frames := R.frames, locals := R.locals, cells := 1, slots := 6 }) (Nat.le_refl _) (Nat.le_refl _) hRcells hRslots
  obtain ⟨s', hA⟩ : ∃ z, z = (T.setVm s.vm).setFrames (.invoking m args :: below) := ⟨_, rfl⟩
  rw [← hA] at Y
  have hvm : s'.vm = s.vm := by rw [hA]; rfl
  have hhp : s'.heap = H := by rw [hA]; exact hT
  have hW0 : s.WarmedH s'.vm := by rw [hvm]; exact State.WarmedH.refl s
  have hat' : ∀ w ∈ vx_atS own ic cls names, w.before args s' = true := fun w hw => vx_ot_at hW0 hvm.symm (hgood w (List.mem_cons_of_mem _ (List.mem_cons_of_mem _ hw))) (hat w hw)
  have hk' : (Cond.classLink own ik cls).before args s' = true := vx_ot_at hW0 hvm.symm (hgood _ List.mem_cons_self) hk
  have hini' : (Cond.initialized cls).before args s' = true := vx_ot_at hW0 hvm.symm (hgood _ (List.mem_cons_of_mem _ List.mem_cons_self)) hini
  have hU' : vx_Zq Bundle.tN "UNASSIGNED_STACK" Bundle.steD A s' s'.heap := by rw [hhp]; exact vx_Zq.moved hW0.alike (hU.kept hS.2.1)
  have hN' : vx_Zq Bundle.tN "SUPPRESSED_SENTINEL" Bundle.listD A s' s'.heap := by rw [hhp]; exact vx_Zq.moved hW0.alike (hN.kept hS.2.1)
  have h : ∀ w ∈ Bundle.ownAtoms own ic cls names, w.before args s' = true := vx_own hat' (vx_isRefq hU'.1) (vx_isRefq hN'.1) hU'.2.word hN'.2.word
  have hown' : s'.vm.findClass own = some m.cls := by rw [hvm]; exact hown
  have hins : (Cond.instantiable cls 6).before args s' = true := h _ (by simp [Bundle.ownAtoms])
  obtain ⟨vm₁, cX, kX, hfX, hkX, -, -, X₁, st1⟩ := Y.newCold hexec (own := own) (C := cls) (index := ik) (n := 6) hown' hk' hins hini'
    (g := F0 m pc ls rest) rfl (by rw [hb]; exact d0) (Nat.le_refl _) (Nat.le_refl _)
  generalize hT1 : (T.setVm vm₁).pushCell { cls := cX, slots := kX.instanceTypes.map defaultValue, vm := .none } = T1 at X₁ st1
  have hcat : (Value.ref T.heap.size).category = 1 := rfl
  have hcellA : T1.heap[T.heap.size]? = some (freshCell cX kX) := by rw [← hT1]; exact State.heap_pushCell_size _ _
  have d3' : decode c.code (pc + 3) = .ok (.dup, 1) := by rw [hb]; exact d3
  have d4' : decode c.code (pc + 4) = .ok (.ldc is, 2) := by rw [hb]; exact d4
  have hstr' : vk_R own is text sa s' := vk_R.warm hW0 hstr
  obtain ⟨U, hsteps, hrun, hend, hW, hsame, ce, hce, hO⟩ := X₁.ctorThrowS hexec htr (own := own) (cls := cls) (names := names) (ic := ic) hown' hcls hnames h (fun x hx => nomatch hx) hfX hkX hcellA (by rw [hhp, hT]; exact Nat.le_refl _) (msg := .ref sa) rfl
    (g := { method := m, pc := pc + 6, locals := ls, stack := .ref sa :: .ref T.heap.size :: .ref T.heap.size :: rest, locked := none }) rfl hsize rfl rfl (rest := rest) rfl
    (by rw [hb]; exact d6) (by rw [hb]; exact d9) hout hRframes (by simp only [List.map_cons, List.sum_cons, hcat]; omega) hlocks
  obtain ⟨f1, f2⟩ := vx_frame hsame
  rw [hhp] at f1 f2
  have hWs : s.WarmedH U.vm := State.WarmedH.trans hW0 hW
  have hcl : s.vm.findClass cls = some ce.cls := by
    have h9 := hO.cls
    rw [hvm] at h9
    exact h9
  have hall : s.sameButNew ({ U with vm := s.vm } : State) locs mc ms := by
    subst hA
    obtain ⟨e1, e2⟩ := hsame
    rw [State.setFrames_setFrames] at e1
    have h2 : (T.setVm s.vm).sameButNew ({ U with vm := s.vm } : State) [] (0 + 1) (0 + 6) := ⟨e1, e2⟩
    have h3 := X.same.trans h2
    rw [List.append_nil] at h3
    exact h3.mono hc hs
  refine ⟨U, ?_, .threw T.heap.size, hrun, hend, Or.inr ⟨T.heap.size, rfl, cls, ce, locs, hx U hWs.alike f1 (fun q hq => f2 q hq (fun z hz => nomatch hz)), hce, hO.vm, hcl, hWs, hall, hf⟩⟩
  refine st1 _ ?_
  show Steps p.tables e below (T1.setTop { method := m, pc := pc + 3, locals := ls, stack := .ref T.heap.size :: rest, locked := none }) _
  jvm_step X₁.here [X₁.here.top, hexec, d3', Value.category]
  exact X₁.ldcString hexec (own := own) (text := text) (index := is) (a := sa) hown' hstr'.1 hstr'.2
    (g := { method := m, pc := pc + 4, locals := ls, stack := .ref T.heap.size :: .ref T.heap.size :: rest, locked := none }) rfl d4' _ hsteps
/-- 'throw new E("text")', the text by a wide index -/
theorem vx_throwSW {cc : ByteArray} {pc : Nat} (hexec : p.tables.exec = Jvm.exec) (hb : c.code = cc) (hl : l.stackTraces = false) {own cls text : String} {names : List String} {ik is ic mc ms sa : Nat} {A : Nat → Prop}
    (hown : s.vm.findClass own = some m.cls) (hcls : Bundle.fit cls = true) (hnames : ∀ n ∈ names, Bundle.fit n = true)
    (hk : (Cond.classLink own ik cls).before args s = true) (hini : (Cond.initialized cls).before args s = true) (hstr : vk_R own is text sa s) (hat : ∀ w ∈ vx_atS own ic cls names, w.before args s = true)
    (hgood : ∀ w ∈ Cond.classLink own ik cls :: Cond.initialized cls :: vx_atS own ic cls names, vx_ot w = true)
    (hU : vx_Zq Bundle.tN "UNASSIGNED_STACK" Bundle.steD A s s.heap) (hN : vx_Zq Bundle.tN "SUPPRESSED_SENTINEL" Bundle.listD A s s.heap) (hS : va_S A s.heap H locs) (hsize : ls.size = c.maxLocals)
    (d0 : decode cc pc = .ok (.new ik, 3)) (d3 : decode cc (pc + 3) = .ok (.dup, 1)) (d4 : decode cc (pc + 4) = .ok (.ldc_w is, 3)) (d7 : decode cc (pc + 7) = .ok (.invokespecial ic, 3)) (d10 : decode cc (pc + 10) = .ok (.athrow, 1))
    (hout : ∀ x ∈ c.exceptionTable.toList, covers x (pc + 10) = false)
    (hRframes : names.length + 3 < R.frames) (hRlocals : (rest.map fun v => v.category).sum + (13 * (names.length + 1) + 43) ≤ R.locals) (hRcells : cells + 1 ≤ R.cells) (hRslots : slots + 6 ≤ R.slots) (hlocks : meth.locks = false)
    (hx : ∀ t : State, s.vm.Alike t.vm → H.size ≤ t.heap.size → (∀ q : Nat, q < H.size → t.heap[q]? = H[q]?) → XC cls s t)
    (hf : ∀ z ∈ locs, free z.base) (hc : cells + 1 ≤ mc) (hs : slots + 6 ≤ ms) :
    W p l e R s m args below meth c H locs cells slots (vx_MQ below Qc XC args s mc ms free) (F0 m pc ls rest) := by
  intro T hT X
  have htr : e.platform.stackTraces = false := (show e.platform.stackTraces = l.stackTraces by rw [X.admits.platform]).trans hl
  have Y := vx_rebase X (R' := { frames := R.frames, locals := R.locals, cells := 1, slots := 6 }) (Nat.le_refl _) (Nat.le_refl _) hRcells hRslots
  obtain ⟨s', hA⟩ : ∃ z, z = (T.setVm s.vm).setFrames (.invoking m args :: below) := ⟨_, rfl⟩
  rw [← hA] at Y
  have hvm : s'.vm = s.vm := by rw [hA]; rfl
  have hhp : s'.heap = H := by rw [hA]; exact hT
  have hW0 : s.WarmedH s'.vm := by rw [hvm]; exact State.WarmedH.refl s
  have hat' : ∀ w ∈ vx_atS own ic cls names, w.before args s' = true := fun w hw => vx_ot_at hW0 hvm.symm (hgood w (List.mem_cons_of_mem _ (List.mem_cons_of_mem _ hw))) (hat w hw)
  have hk' : (Cond.classLink own ik cls).before args s' = true := vx_ot_at hW0 hvm.symm (hgood _ List.mem_cons_self) hk
  have hini' : (Cond.initialized cls).before args s' = true := vx_ot_at hW0 hvm.symm (hgood _ (List.mem_cons_of_mem _ List.mem_cons_self)) hini
  have hU' : vx_Zq Bundle.tN "UNASSIGNED_STACK" Bundle.steD A s' s'.heap := by rw [hhp]; exact vx_Zq.moved hW0.alike (hU.kept hS.2.1)
  have hN' : vx_Zq Bundle.tN "SUPPRESSED_SENTINEL" Bundle.listD A s' s'.heap := by rw [hhp]; exact vx_Zq.moved hW0.alike (hN.kept hS.2.1)
  have h : ∀ w ∈ Bundle.ownAtoms own ic cls names, w.before args s' = true := vx_own hat' (vx_isRefq hU'.1) (vx_isRefq hN'.1) hU'.2.word hN'.2.word
  have hown' : s'.vm.findClass own = some m.cls := by rw [hvm]; exact hown
  have hins : (Cond.instantiable cls 6).before args s' = true := h _ (by simp [Bundle.ownAtoms])
  obtain ⟨vm₁, cX, kX, hfX, hkX, -, -, X₁, st1⟩ := Y.newCold hexec (own := own) (C := cls) (index := ik) (n := 6) hown' hk' hins hini'
    (g := F0 m pc ls rest) rfl (by rw [hb]; exact d0) (Nat.le_refl _) (Nat.le_refl _)
  generalize hT1 : (T.setVm vm₁).pushCell { cls := cX, slots := kX.instanceTypes.map defaultValue, vm := .none } = T1 at X₁ st1
  have hcat : (Value.ref T.heap.size).category = 1 := rfl
  have hcellA : T1.heap[T.heap.size]? = some (freshCell cX kX) := by rw [← hT1]; exact State.heap_pushCell_size _ _
  have d3' : decode c.code (pc + 3) = .ok (.dup, 1) := by rw [hb]; exact d3
  have d4' : decode c.code (pc + 4) = .ok (.ldc_w is, 3) := by rw [hb]; exact d4
  have hstr' : vk_R own is text sa s' := vk_R.warm hW0 hstr
  obtain ⟨U, hsteps, hrun, hend, hW, hsame, ce, hce, hO⟩ := X₁.ctorThrowS hexec htr (own := own) (cls := cls) (names := names) (ic := ic) hown' hcls hnames h (fun x hx => nomatch hx) hfX hkX hcellA (by rw [hhp, hT]; exact Nat.le_refl _) (msg := .ref sa) rfl
    (g := { method := m, pc := pc + 7, locals := ls, stack := .ref sa :: .ref T.heap.size :: .ref T.heap.size :: rest, locked := none }) rfl hsize rfl rfl (rest := rest) rfl
    (by rw [hb]; exact d7) (by rw [hb]; exact d10) hout hRframes (by simp only [List.map_cons, List.sum_cons, hcat]; omega) hlocks
  obtain ⟨f1, f2⟩ := vx_frame hsame
  rw [hhp] at f1 f2
  have hWs : s.WarmedH U.vm := State.WarmedH.trans hW0 hW
  have hcl : s.vm.findClass cls = some ce.cls := by
    have h9 := hO.cls
    rw [hvm] at h9
    exact h9
  have hall : s.sameButNew ({ U with vm := s.vm } : State) locs mc ms := by
    subst hA
    obtain ⟨e1, e2⟩ := hsame
    rw [State.setFrames_setFrames] at e1
    have h2 : (T.setVm s.vm).sameButNew ({ U with vm := s.vm } : State) [] (0 + 1) (0 + 6) := ⟨e1, e2⟩
    have h3 := X.same.trans h2
    rw [List.append_nil] at h3
    exact h3.mono hc hs
  refine ⟨U, ?_, .threw T.heap.size, hrun, hend, Or.inr ⟨T.heap.size, rfl, cls, ce, locs, hx U hWs.alike f1 (fun q hq => f2 q hq (fun z hz => nomatch hz)), hce, hO.vm, hcl, hWs, hall, hf⟩⟩
  refine st1 _ ?_
  show Steps p.tables e below (T1.setTop { method := m, pc := pc + 3, locals := ls, stack := .ref T.heap.size :: rest, locked := none }) _
  jvm_step X₁.here [X₁.here.top, hexec, d3', Value.category]
  exact X₁.ldcStringW hexec (own := own) (text := text) (index := is) (a := sa) hown' hstr'.1 hstr'.2
    (g := { method := m, pc := pc + 4, locals := ls, stack := .ref T.heap.size :: .ref T.heap.size :: rest, locked := none }) rfl d4' _ hsteps
end Ends
section Bodies
variable {l : Launch}
theorem vx_ofW {y : MethodName} {ws ws' : List Cond} {rm : Room} {Pc : Array Value → State → Prop} {Qc : Array Value → State → Outcome → State → Prop} {XC : String → State → State → Prop} {mc ms : Nat} {free : Addr → Prop} {cc : ByteArray} {maxL : Nat} {ret : Option FieldType}
    (hy : plainName y.cls = true) (hw : ws = Cond.code y cc maxL ret :: ws')
    (body : ∀ p e s m args below meth c s₁, BodyLoose p l y (headSpec ws rm) cc maxL ret e s m args below meth c s₁ → c.maxLocals = maxL → (∀ x ∈ c.exceptionTable.toList, False) → Pc args s →
      W p l e (headSpec ws rm).room s m args below meth c s.heap [] 0 0 (vx_MQ below Qc XC args s mc ms free) (entryFrame m args maxL)) : vx_Met l y ws rm Pc Qc XC mc ms free := by
  refine MetFree.of_bodyS (code := cc) (maxLocals := maxL) (ret := ret) hy ?_ ?_
  · intro args s m h hn
    obtain ⟨meth, c, h1, h2, h3, h4, h5, h6, -, -⟩ := Cond.code_spec hn (atoms_spec (ws := ws) h _ (by rw [hw]; exact List.mem_cons_self))
    exact ⟨meth, c, h1, h2, h3, h4, h5, h6⟩
  · intro p e s m args below meth c s₁ B hml hP _
    have hh0 : s₁.heap = s.heap := by rw [B.state]; rfl
    have ht : ∀ x ∈ c.exceptionTable.toList, False := by
      obtain ⟨meth9, c9, h1, h2, -, -, -, -, h7, -⟩ := Cond.code_spec B.named (atoms_spec (ws := ws) B.pre _ (by rw [hw]; exact List.mem_cons_self))
      cases Option.some.inj (h1.symm.trans B.method)
      cases Option.some.inj (h2.symm.trans (Stand.of_body B).code)
      intro x hx
      rw [Array.isEmpty_iff.mp h7] at hx
      cases hx
    obtain ⟨t, a1, o, b1, b2, b3⟩ := body p e s m args below meth c s₁ B hml ht hP s₁ hh0 (Stand.of_body B)
    exact ⟨t, o, a1, b1, b2, b3⟩
/-- the table of a body with handlers -/
theorem vx_table {p : Program} {x y : MethodName} {S : Spec} {cc bytes : ByteArray} {maxL maxL' : Nat} {ret ret' : Option FieldType} {e : Env} {s s₁ : State} {m : MethodId} {args : Array Value} {below : List Frame} {meth : Method} {c : Code} {hh : List (Nat × Nat × Nat × Nat)}
    (B : BodyLoose p l y S cc maxL ret e s m args below meth c s₁) (h : (Cond.codeWith y bytes maxL' ret' hh).before args s = true) : c.exceptionTable.toList = tableOf hh := by
  obtain ⟨m9, meth9, c9, hn9, h1, h2, -, -, h6, -⟩ := Cond.codeWith_spec h
  cases Option.some.inj (hn9.symm.trans B.named)
  cases Option.some.inj (h1.symm.trans B.method)
  cases Option.some.inj (h2.symm.trans (Stand.of_body B).code)
  rw [← h6, table_eq]
end Bodies
end VXA
/-! ===== END ===== -/
/-! ===== BEGIN a static call of a method with an exception table ===== -/
section VXS
variable {p : Program} {l : Launch} {e : Env} {R : Room} {s : State} {m : MethodId} {args : Array Value} {below : List Frame} {meth : Method} {c : Code} {T : State} {H : Heap} {locs : List Loc} {cells slots : Nat}
abbrev vx_CSW (R : Room) (s : State) (args : Array Value) (own : String) (index : Nat) (y : MethodName) (bytes : ByteArray) (maxL : Nat) (ret : Option FieldType) (hh : List (Nat × Nat × Nat × Nat)) (ws : List Cond) (rm : Room) (mc ms n : Nat) : Prop :=
  (rm.cells = mc ∧ rm.slots = ms ∧ rm.frames + 1 ≤ R.frames ∧ 8 + (maxL + 11) + rm.locals ≤ R.locals ∧ (∀ w ∈ ws, ∀ (a' : Array Value) (U : State), s.WarmedH U.vm → w.before a' U = true) ∧ Cond.codeWith y bytes maxL ret hh ∈ ws) ∧
  (Cond.codeWith y bytes maxL ret hh).before args s = true ∧ (Cond.initialized y.cls).before args s = true ∧ (y.cls ≠ "java/lang/invoke/MethodHandle" ∧ y.cls ≠ "java/lang/invoke/VarHandle") ∧
  (∀ sig, parseMethodDescriptor y.desc = some sig → n = sig.parameters.length) ∧ (Cond.methodLink own index y).before args s = true ∧ (Cond.static y).before args s = true
theorem vx_cwSW {own : String} {index maxL mc ms : Nat} {y : MethodName} {bytes : ByteArray} {ret : Option FieldType} {hh : List (Nat × Nat × Nat × Nat)} {Ts ws ws' : List Cond} {rm : Room} (n : Nat) (ht : ∀ w ∈ Ts, w.before args s = true) (hT : GoodIn Ts (va_wsS own index y ws)) (hw : ws = Cond.codeWith y bytes maxL ret hh :: ws') (hrc : rm.cells = mc) (hrs : rm.slots = ms)
    (hd : y.cls ≠ "java/lang/invoke/MethodHandle" ∧ y.cls ≠ "java/lang/invoke/VarHandle" ∧ (parseMethodDescriptor y.desc).map (fun d => d.parameters.length) = some n) (hR : rm.frames + 1 ≤ R.frames ∧ 8 + (maxL + 11) + rm.locals ≤ R.locals) :
    vx_CSW R s args own index y bytes maxL ret hh ws rm mc ms n := by
  have ok : ∀ w ∈ va_wsS own index y ws, w.before args s = true := fun w h => ht w (hT w h).1
  have hG : GoodIn Ts ws := fun w h => hT w (by unfold va_wsS; exact List.mem_append_right _ h)
  have hc : Cond.codeWith y bytes maxL ret hh ∈ ws := by rw [hw]; exact List.mem_cons_self
  refine ⟨⟨hrc, hrs, hR.1, hR.2, pay_in ht hG, hc⟩, ht _ (hG _ hc).1, ok _ (by simp [va_wsS]), ⟨hd.1, hd.2.1⟩, fun sig h => ?_, ok _ (by simp [va_wsS]), ok _ (by simp [va_wsS])⟩
  have h2 := hd.2.2
  rw [h] at h2
  exact (Option.some.inj h2).symm
theorem vx_callSW (X : Stand p l e R s m args below meth c T locs cells slots) (hexec : p.tables.exec = Jvm.exec) {own : String} {index : Nat} {y : MethodName} {bytes : ByteArray} {maxL : Nat} {ret : Option FieldType} {hh : List (Nat × Nat × Nat × Nat)}
    (hown : s.vm.findClass own = some m.cls) (hlink : (Cond.methodLink own index y).before args s = true) (hstat : (Cond.static y).before args s = true) (hinit : (Cond.initialized y.cls).before args s = true)
    (hcode : (Cond.codeWith y bytes maxL ret hh).before args s = true) (hy : y.cls ≠ "java/lang/invoke/MethodHandle" ∧ y.cls ≠ "java/lang/invoke/VarHandle")
    {W9 : Nat} {Pre : Pt → Array Value → Prop} {Post : Pt → Array Value → Option Value → Pt → Prop} (hK : Back l R p e below s args y 3 W9 Pre Post)
    {g : JFrame} (hg : g.method = m) (hsize : g.locals.size = c.maxLocals) {argsL rest : List Value} (hlen : ∀ sig, parseMethodDescriptor y.desc = some sig → argsL.length = sig.parameters.length)
    (hstack : g.stack = argsL.reverse ++ rest) (hW : 2 * g.monitorRoom + (rest.map fun v => v.category).sum ≤ W9) (hdg : decode c.code g.pc = .ok (.invokestatic index, 3))
    (hpre : ∀ vm₁, s.WarmedH vm₁ → Pre ⟨T.setVm vm₁, locs, cells, slots⟩ argsL.toArray) :
    ∃ (v : Option Value) (vm₁ : Vm) (B : Pt), s.WarmedH vm₁ ∧ Stand p l e R s m args below meth c B.U B.locs B.cells B.slots ∧ Post ⟨T.setVm vm₁, locs, cells, slots⟩ argsL.toArray v B ∧
      ∀ target, Steps p.tables e below (B.U.setTop { g with pc := g.pc + 3, stack := v.toList ++ rest }) target → Steps p.tables e below (T.setTop g) target := by
  obtain ⟨mk, methM, cM, hnamed, hmethM, -, -, -, -, -, -, hsigM⟩ := Cond.codeWith_spec hcode
  have hstatic : methM.isStatic = true := Cond.static_spec hnamed hmethM hstat
  obtain ⟨kP, hkP, -⟩ := className_of_methodNamed hnamed
  have hinitP : kP.init = .initialized := Cond.initialized_spec (findClass_of_methodNamed hnamed) hkP hinit
  obtain ⟨vm₁, X₁, hstep₁⟩ := X.invokestatic hexec hown hlink hnamed hmethM hstatic hkP hinitP hy (g := g) hg (argsL := argsL) (rest := rest) (hlen _ hsigM) hstack hdg
  obtain ⟨v, B, X', hpost, hsteps⟩ := hK m meth c ⟨T.setVm vm₁, locs, cells, slots⟩ { g with stack := rest } (.invokestatic index) mk argsL.toArray X₁ hg hsize hdg hW (X₁.named hnamed) (hpre vm₁ X₁.warmed)
  exact ⟨v, vm₁, B, X₁.warmed, X', hpost, fun target h => hstep₁ _ fun acts => by rw [doInvoke_state]; exact hsteps.trans h⟩
theorem vx_runSW {y : MethodName} {bytes cc : ByteArray} {maxL nL mc ms n index : Nat} {ret : Option FieldType} {hh : List (Nat × Nat × Nat × Nat)} {ws : List Cond} {rm : Room} {Pc : Array Value → State → Prop} {Qc : Array Value → State → Outcome → State → Prop} {free : Addr → Prop} {Ts : List Cond} {own : String} {As rest : List Value} {g : JFrame}
    (S : CallFix p m c cc nL s args Ts own) (hM : Met l y ws rm Pc Qc mc ms free) (cw : vx_CSW R s args own index y bytes maxL ret hh ws rm mc ms n) (hp : PreS s H Pc As)
    (hg : g.method = m) (hn : As.length = n) (hsize : g.locals.size = nL) (hstack : g.stack = As.reverse ++ rest) (hW : 2 * g.monitorRoom + (rest.map fun v => v.category).sum ≤ 8) (hdg : decode cc g.pc = .ok (.invokestatic index, 3)) (hf : cells + mc ≤ R.cells ∧ slots + ms ≤ R.slots) :
    va_Run p l e R s m args below meth c H locs cells slots mc ms g rest (Qc As.toArray) (free) := by
  obtain ⟨⟨hrc, hrs, hfr, hlo, hws, hcw⟩, hcode, hini, hy, hlen, hl, hstt⟩ := cw
  have hK : Back l R p e below s args y 3 8 (PreOf R mc ms Pc) (PostOf Qc mc ms free) := va_backW (hh := hh) (bytes := bytes) (maxL := maxL) (ret := ret) hM hp.1 hrc hrs hfr hlo hws hcw (fun a' U hW => word_at hW (Or.inl (by first | rfl | simp [Cond.onTables, Cond.keeps, Cond.steady])) hini)
  obtain ⟨hx, hb, hml, ho, -⟩ := S
  intro T hT X
  obtain ⟨v, vm₁, ⟨U', l2, c2, s2⟩, hW₁, X', ⟨g', mk, t, L, e1, e2, hq, h1, hL, h2, h3⟩, st⟩ := vx_callSW X hx (hh := hh) (bytes := bytes) (maxL := maxL) (ret := ret) ho hl hstt hini hcode hy hK hg (hsize.trans hml.symm) (argsL := As) (rest := rest) (fun sig h => hn.trans (hlen sig h)) hstack hW (by rw [hb]; exact hdg)
    (fun vm₁ hW₁ => ⟨hf.1, hf.2, hp.2 (T.setVm vm₁) hT hW₁⟩)
  dsimp only [Pt.U, Pt.locs, Pt.cells, Pt.slots] at X' e1 e2 h1 h2 h3 st
  subst h1; subst h2; subst h3
  exact ⟨v, (T.setVm vm₁).calling g' mk As.toArray, t, U', L, hT, X', hL, e1, e2, hq, st⟩
/-- a thing of a world lies in the heap -/
theorem vx_lt {D : va_G} {cl : List vw_C} {ws : va_W} {H1 : Heap} (h : va_P D cl ws H1) {k : Nat} {q : Nat × va_E} (hk : ws[k]? = some q) : q.1 < H1.size := (h k q hk).lt
end VXS
/-! ===== END ===== -/
/-! ===== BEGIN methods with a table of their own: called by a name, returning or throwing ===== -/
section VXH
/-! vx_backW, vx_callVX, vx_callSX, vx_callVW, vx_runVW, vx_runVX, vx_runSX, vx_ofWH follow the same proofs as their sisters above (Free/Laws.lean, Shelf42/LK1.lean); vx_outP calls Shelf42/NT130.lean (outThrough). -/
section
variable {l : Launch} {R : Room} {p : Program} {e : Env} {below : List Frame} {s : State} {sargs : Array Value} {y : MethodName} {len W9 : Nat}
theorem vx_backW {ws : List Cond} {rm : Room} {Pc : Array Value → State → Prop} {Qc : Array Value → State → Outcome → State → Prop} {XC : String → State → State → Prop} {mc ms : Nat} {free : Addr → Prop} {bytes : ByteArray} {maxL : Nat} {ret : Option FieldType} {hh : List (Nat × Nat × Nat × Nat)}
    (hM : vx_Met l y ws rm Pc Qc XC mc ms free) (hblind : FrameBlind Pc) (hrc : rm.cells = mc) (hrs : rm.slots = ms)
    (hframes : rm.frames + 1 ≤ R.frames) (hlocals : W9 + (maxL + 11) + rm.locals ≤ R.locals)
    (hws : ∀ w ∈ ws, ∀ a' U, s.WarmedH U.vm → w.before a' U = true) (hcode : Cond.codeWith y bytes maxL ret hh ∈ ws) (hinit : ∀ a' U, s.WarmedH U.vm → (Cond.initialized y.cls).before a' U = true) :
    vx_Back l R p e below s sargs y len W9 (PreOf R mc ms Pc) (PostOf Qc mc ms free) (vx_Post XC mc ms free) := by
  intro m meth c A g ig mk a X hg hsize hdg hW hn hp
  have h1 : (headSpec ws rm).pre.before a A.U = true := atoms_intro fun w hw => hws w hw _ _ X.warmed
  have h2 : (Cond.codeWith y bytes maxL ret hh).before a A.U = true := hws _ hcode _ _ X.warmed
  have h3 : (Cond.initialized y.cls).before a A.U = true := hinit _ _ X.warmed
  have h4 : A.cells + (headSpec ws rm).room.cells ≤ R.cells := by rw [show (headSpec ws rm).room.cells = mc from hrc]; exact hp.1
  have h5 : A.slots + (headSpec ws rm).room.slots ≤ R.slots := by rw [show (headSpec ws rm).room.slots = ms from hrs]; exact hp.2.1
  have hPc : Pc a (A.U.calling g mk a) := hblind _ _ _ _ hp.2.2
  obtain ⟨U, Ls, c0, s0⟩ := A
  dsimp only [Pt.U, Pt.locs, Pt.cells, Pt.slots] at h1 h2 h3 h4 h5 X hn hPc ⊢
  obtain ⟨m9, methY, cY, hn9, hmY, hcY, -, hlY, -⟩ := Cond.codeWith_spec h2
  cases Option.some.inj (hn9.symm.trans hn)
  obtain ⟨kY, hkY, -⟩ := className_of_methodNamed hn
  have hinitY : kY.init = .initialized := Cond.initialized_spec (findClass_of_methodNamed hn) hkY h3
  have h : At U g.method c below := by rw [hg]; exact X.here
  have hlocals9 : W9 + (maxL + 11) + (headSpec ws rm).room.locals ≤ R.locals := hlocals
  have happ : (headSpec ws rm).appliesLoose y e.platform (U.calling g mk a) = true :=
    Spec.appliesLoose_calling (g := g) h hdg hn hkY hinitY
      (X.room_calling (g := g) (R' := (headSpec ws rm).room) hsize hmY hcY hframes (by rw [hlY]; omega) h4 h5) h1
  obtain ⟨mid, hmid⟩ := h.above
  have hfr : (U.setTop g).frames = (.java g :: mid) ++ below := by rw [State.frames_setTop' g h.top, hmid]; rfl
  obtain ⟨o, s₂, hsteps, -, hend, hq⟩ := Steps.callFree hM p X.admits X.cas X.clock (acts := []) hfr happ hPc trivial
  have hq' : vx_Q Qc XC mc ms free a (U.calling g mk a) o s₂ := hq
  rw [State.frames_setTop' g h.top] at hend
  obtain ⟨g₀, hg0⟩ := Option.isSome_iff_exists.mp h.top
  obtain ⟨r, hr⟩ := State.topJava?_eq_some.mp hg0
  have hr' : (({ U with heap := s₂.heap, slotsUsed := s₂.slotsUsed } : State).setVm s₂.vm).frames = .java g₀ :: r := hr
  rcases hq' with ⟨hqc, L, hfe, hL⟩ | ⟨q, rfl, E, ce, L, hx, hce, hcv, hcl, hW₂, hsm, hL⟩
  · obtain ⟨⟨v, rfl⟩, hW₂, e2, q2, q3, q4, q5, q6⟩ := id hfe
    have e3 : s₂ = ({ (U.calling g mk a).setFrames s₂.frames with heap := s₂.heap, slotsUsed := s₂.slotsUsed } : State).setVm s₂.vm := by
      have : s₂ = ({ s₂ with vm := (U.calling g mk a).vm } : State).setVm s₂.vm := rfl
      rw [e2] at this
      exact this
    obtain ⟨c₂, i₂, len₂, hc₂, hd₂, hf₂⟩ := hend
    have hW' : U.WarmedH s₂.vm := hW₂
    have hcc : c₂ = c := by
      have h1 : s₂.code? g.method = U.code? g.method := by
        rw [State.code?_eq, State.code?_eq, hW'.alike.method?]
      exact Option.some.inj (hc₂.symm.trans (h1.trans h.code))
    subst hcc
    have hlen : len₂ = len := by rw [hdg] at hd₂; cases hd₂; rfl
    subst hlen
    have hs₂ : s₂ = (({ U with heap := s₂.heap, slotsUsed := s₂.slotsUsed } : State).setVm s₂.vm).setTop { g with pc := g.pc + len₂, stack := v.toList ++ g.stack } := by
      refine e3.trans ?_
      rw [hf₂, State.calling_eq h.top, State.setFrames_setFrames, State.setTop_of_frames _ hr', hr]
      rfl
    have hsame : U.sameButNew ({ U with heap := s₂.heap, slotsUsed := s₂.slotsUsed } : State) L mc ms := by
      refine ⟨?_, q2, q3, q4, q5, q6⟩
      obtain ⟨t, ht, -⟩ := State.frames_cons hr
      show ({ U with heap := s₂.heap, slotsUsed := s₂.slotsUsed } : State) = { U.setFrames U.frames with heap := s₂.heap, slotsUsed := s₂.slotsUsed }
      rw [State.setFrames_self ht]
    subst hg
    refine Or.inl ⟨v, ⟨(({ U with heap := s₂.heap, slotsUsed := s₂.slotsUsed } : State).setVm s₂.vm), Ls ++ L, c0 + mc, s0 + ms⟩,
      ⟨X.admits, X.cas, X.clock, X.frames, X.room, X.hears, X.method, X.code, (X.here.setHeapUsed s₂.heap s₂.slotsUsed).setVm hW'.alike, X.tail, State.WarmedH.trans X.warmed hW', X.limits, X.bytes, X.same.trans (hsame.setVm s.vm)⟩,
      ⟨g, mk, s₂, L, rfl, rfl, hqc, rfl, hL, rfl, rfl⟩, ?_⟩
    show Steps p.tables e below _ ((({ U with heap := s₂.heap, slotsUsed := s₂.slotsUsed } : State).setVm s₂.vm).setTop { g with pc := g.pc + len₂, stack := v.toList ++ g.stack })
    rw [← hs₂]
    exact hsteps
  · obtain ⟨e2, q2, q3, q4, q5, q6⟩ := id hsm
    have e3 : s₂ = ({ (U.calling g mk a).setFrames s₂.frames with heap := s₂.heap, slotsUsed := s₂.slotsUsed } : State).setVm s₂.vm := by
      have : s₂ = ({ s₂ with vm := (U.calling g mk a).vm } : State).setVm s₂.vm := rfl
      rw [e2] at this
      exact this
    have hf₂ : s₂.frames = .throwing q :: .java g :: U.frames.tail := hend
    have hW' : U.WarmedH s₂.vm := hW₂
    have hs₂ : s₂ = ((({ U with heap := s₂.heap, slotsUsed := s₂.slotsUsed } : State).setVm s₂.vm).setTop g).pushFrame (.throwing q) := by
      refine e3.trans ?_
      rw [hf₂, State.calling_eq h.top, State.setFrames_setFrames, State.pushFrame, State.frames_setTop _ hr', State.setTop_of_frames _ hr', State.setFrames_setFrames, hr]
      rfl
    have hsame : U.sameButNew ({ U with heap := s₂.heap, slotsUsed := s₂.slotsUsed } : State) L mc ms := by
      refine ⟨?_, q2, q3, q4, q5, q6⟩
      obtain ⟨t, ht, -⟩ := State.frames_cons hr
      show ({ U with heap := s₂.heap, slotsUsed := s₂.slotsUsed } : State) = { U.setFrames U.frames with heap := s₂.heap, slotsUsed := s₂.slotsUsed }
      rw [State.setFrames_self ht]
    subst hg
    refine Or.inr ⟨q, ⟨(({ U with heap := s₂.heap, slotsUsed := s₂.slotsUsed } : State).setVm s₂.vm), Ls ++ L, c0 + mc, s0 + ms⟩,
      ⟨X.admits, X.cas, X.clock, X.frames, X.room, X.hears, X.method, X.code, (X.here.setHeapUsed s₂.heap s₂.slotsUsed).setVm hW'.alike, X.tail, State.WarmedH.trans X.warmed hW', X.limits, X.bytes, X.same.trans (hsame.setVm s.vm)⟩,
      ⟨g, mk, s₂, L, E, ce, rfl, rfl, hx, hce, hcv, hcl, rfl, hL, rfl, rfl⟩, ?_⟩
    show Steps p.tables e below _ (((({ U with heap := s₂.heap, slotsUsed := s₂.slotsUsed } : State).setVm s₂.vm).setTop g).pushFrame (.throwing q))
    rw [← hs₂]
    exact hsteps
end
variable {p : Program} {l : Launch} {e : Env} {R : Room} {s : State} {m : MethodId} {args : Array Value} {below : List Frame} {meth : Method} {c : Code} {T : State} {H : Heap} {locs : List Loc} {cells slots : Nat}
theorem vx_callVX (X : Stand p l e R s m args below meth c T locs cells slots) (hexec : p.tables.exec = Jvm.exec) {own C : String} {index : Nat} {y : MethodName} {bytes : ByteArray} {maxL : Nat} {ret : Option FieldType} {hh : List (Nat × Nat × Nat × Nat)}
    (hown : s.vm.findClass own = some m.cls) (hlink : (Cond.methodLink own index y).before args s = true) (hinst : (Cond.instanceMethod y).before args s = true) (hsel : (Cond.selects C y y).before args s = true)
    (hcode : (Cond.codeWith y bytes maxL ret hh).before args s = true) (hy : y.cls ≠ "java/lang/invoke/MethodHandle" ∧ y.cls ≠ "java/lang/invoke/VarHandle")
    {W9 : Nat} {Pre : Pt → Array Value → Prop} {Post : Pt → Array Value → Option Value → Pt → Prop} {PostX : Pt → Array Value → Addr → Pt → Prop} (hK : vx_Back l R p e below s args y 3 W9 Pre Post PostX)
    {b : Addr} {cellB : Cell} (hcell : T.heap[b]? = some cellB) (hobj : cellB.vm.isStatics = false) (hcls : s.vm.findClass C = some cellB.cls)
    {g : JFrame} (hg : g.method = m) (hsize : g.locals.size = c.maxLocals) {argsL rest : List Value} (hlen : ∀ sig, parseMethodDescriptor y.desc = some sig → argsL.length = sig.parameters.length)
    (hstack : g.stack = argsL.reverse ++ .ref b :: rest) (hW : 2 * g.monitorRoom + (rest.map fun v => v.category).sum ≤ W9) (hdg : decode c.code g.pc = .ok (.invokevirtual index, 3))
    (hpre : ∀ vm₁, s.WarmedH vm₁ → Pre ⟨T.setVm vm₁, locs, cells, slots⟩ (Value.ref b :: argsL).toArray) :
    (∃ (v : Option Value) (vm₁ : Vm) (B : Pt), s.WarmedH vm₁ ∧ Stand p l e R s m args below meth c B.U B.locs B.cells B.slots ∧ Post ⟨T.setVm vm₁, locs, cells, slots⟩ (Value.ref b :: argsL).toArray v B ∧
      ∀ target, Steps p.tables e below (B.U.setTop { g with pc := g.pc + 3, stack := v.toList ++ rest }) target → Steps p.tables e below (T.setTop g) target) ∨
    (∃ (q : Addr) (vm₁ : Vm) (B : Pt), s.WarmedH vm₁ ∧ Stand p l e R s m args below meth c B.U B.locs B.cells B.slots ∧ PostX ⟨T.setVm vm₁, locs, cells, slots⟩ (Value.ref b :: argsL).toArray q B ∧
      Steps p.tables e below (T.setTop g) ((B.U.setTop { g with stack := rest }).pushFrame (.throwing q))) := by
  obtain ⟨mk, methM, hnamed, hmethM, hstM, habM⟩ := Cond.instanceMethod_spec hinst
  obtain ⟨m8, methM', cM, hn8, hmethM', -, -, -, -, -, -, hsigM⟩ := Cond.codeWith_spec hcode
  cases Option.some.inj (hn8.symm.trans hnamed)
  cases hmethM.symm.trans hmethM'
  obtain ⟨c2, r2, m2, q1, q2, q3, q4, kP, hkP, hkPi⟩ := Cond.selects_spec hsel
  cases hcls.symm.trans q1
  cases (State.methodFound?_of_named hnamed hy).symm.trans q2
  cases hnamed.symm.trans q3
  have hselP : selectMethod e.platform s.vm cellB.cls mk = .method mk := by rw [Launch.admits_selectMethod X.admits]; exact q4
  obtain ⟨vm₁, X₁, hstep₁⟩ := X.invokevirtual hexec hown hlink hnamed hmethM hstM hkP hkPi hy (a := b) (cell := cellB) hcell
    (fun z h => by rw [h] at hobj; cases hobj) hselP hmethM habM hkP hkPi (g := g) hg (argsL := argsL) (rest := rest) (hlen _ hsigM) hstack hdg
  rcases hK m meth c ⟨T.setVm vm₁, locs, cells, slots⟩ { g with stack := rest } (.invokevirtual index) mk (Value.ref b :: argsL).toArray X₁ hg hsize hdg hW (X₁.named hnamed) (hpre vm₁ X₁.warmed) with ⟨v, B, X', hpost, hsteps⟩ | ⟨q, B, X', hpost, hsteps⟩
  · exact Or.inl ⟨v, vm₁, B, X₁.warmed, X', hpost, fun target h => hstep₁ _ fun acts => by rw [doInvoke_state]; exact hsteps.trans h⟩
  · exact Or.inr ⟨q, vm₁, B, X₁.warmed, X', hpost, hstep₁ _ fun acts => by rw [doInvoke_state]; exact hsteps⟩
theorem vx_callSX (X : Stand p l e R s m args below meth c T locs cells slots) (hexec : p.tables.exec = Jvm.exec) {own : String} {index : Nat} {y : MethodName} {bytes : ByteArray} {maxL : Nat} {ret : Option FieldType} {hh : List (Nat × Nat × Nat × Nat)}
    (hown : s.vm.findClass own = some m.cls) (hlink : (Cond.methodLink own index y).before args s = true) (hstat : (Cond.static y).before args s = true) (hinit : (Cond.initialized y.cls).before args s = true)
    (hcode : (Cond.codeWith y bytes maxL ret hh).before args s = true) (hy : y.cls ≠ "java/lang/invoke/MethodHandle" ∧ y.cls ≠ "java/lang/invoke/VarHandle")
    {W9 : Nat} {Pre : Pt → Array Value → Prop} {Post : Pt → Array Value → Option Value → Pt → Prop} {PostX : Pt → Array Value → Addr → Pt → Prop} (hK : vx_Back l R p e below s args y 3 W9 Pre Post PostX)
    {g : JFrame} (hg : g.method = m) (hsize : g.locals.size = c.maxLocals) {argsL rest : List Value} (hlen : ∀ sig, parseMethodDescriptor y.desc = some sig → argsL.length = sig.parameters.length)
    (hstack : g.stack = argsL.reverse ++ rest) (hW : 2 * g.monitorRoom + (rest.map fun v => v.category).sum ≤ W9) (hdg : decode c.code g.pc = .ok (.invokestatic index, 3))
    (hpre : ∀ vm₁, s.WarmedH vm₁ → Pre ⟨T.setVm vm₁, locs, cells, slots⟩ argsL.toArray) :
    (∃ (v : Option Value) (vm₁ : Vm) (B : Pt), s.WarmedH vm₁ ∧ Stand p l e R s m args below meth c B.U B.locs B.cells B.slots ∧ Post ⟨T.setVm vm₁, locs, cells, slots⟩ argsL.toArray v B ∧
      ∀ target, Steps p.tables e below (B.U.setTop { g with pc := g.pc + 3, stack := v.toList ++ rest }) target → Steps p.tables e below (T.setTop g) target) ∨
    (∃ (q : Addr) (vm₁ : Vm) (B : Pt), s.WarmedH vm₁ ∧ Stand p l e R s m args below meth c B.U B.locs B.cells B.slots ∧ PostX ⟨T.setVm vm₁, locs, cells, slots⟩ argsL.toArray q B ∧
      Steps p.tables e below (T.setTop g) ((B.U.setTop { g with stack := rest }).pushFrame (.throwing q))) := by
  obtain ⟨mk, methM, cM, hnamed, hmethM, -, -, -, -, -, -, hsigM⟩ := Cond.codeWith_spec hcode
  have hstatic : methM.isStatic = true := Cond.static_spec hnamed hmethM hstat
  obtain ⟨kP, hkP, -⟩ := className_of_methodNamed hnamed
  have hinitP : kP.init = .initialized := Cond.initialized_spec (findClass_of_methodNamed hnamed) hkP hinit
  obtain ⟨vm₁, X₁, hstep₁⟩ := X.invokestatic hexec hown hlink hnamed hmethM hstatic hkP hinitP hy (g := g) hg (argsL := argsL) (rest := rest) (hlen _ hsigM) hstack hdg
  rcases hK m meth c ⟨T.setVm vm₁, locs, cells, slots⟩ { g with stack := rest } (.invokestatic index) mk argsL.toArray X₁ hg hsize hdg hW (X₁.named hnamed) (hpre vm₁ X₁.warmed) with ⟨v, B, X', hpost, hsteps⟩ | ⟨q, B, X', hpost, hsteps⟩
  · exact Or.inl ⟨v, vm₁, B, X₁.warmed, X', hpost, fun target h => hstep₁ _ fun acts => by rw [doInvoke_state]; exact hsteps.trans h⟩
  · exact Or.inr ⟨q, vm₁, B, X₁.warmed, X', hpost, hstep₁ _ fun acts => by rw [doInvoke_state]; exact hsteps⟩
theorem vx_callVW (X : Stand p l e R s m args below meth c T locs cells slots) (hexec : p.tables.exec = Jvm.exec) {own C : String} {index : Nat} {y : MethodName} {bytes : ByteArray} {maxL : Nat} {ret : Option FieldType} {hh : List (Nat × Nat × Nat × Nat)}
    (hown : s.vm.findClass own = some m.cls) (hlink : (Cond.methodLink own index y).before args s = true) (hinst : (Cond.instanceMethod y).before args s = true) (hsel : (Cond.selects C y y).before args s = true)
    (hcode : (Cond.codeWith y bytes maxL ret hh).before args s = true) (hy : y.cls ≠ "java/lang/invoke/MethodHandle" ∧ y.cls ≠ "java/lang/invoke/VarHandle")
    {W9 : Nat} {Pre : Pt → Array Value → Prop} {Post : Pt → Array Value → Option Value → Pt → Prop} (hK : Back l R p e below s args y 3 W9 Pre Post)
    {b : Addr} {cellB : Cell} (hcell : T.heap[b]? = some cellB) (hobj : cellB.vm.isStatics = false) (hcls : s.vm.findClass C = some cellB.cls)
    {g : JFrame} (hg : g.method = m) (hsize : g.locals.size = c.maxLocals) {argsL rest : List Value} (hlen : ∀ sig, parseMethodDescriptor y.desc = some sig → argsL.length = sig.parameters.length)
    (hstack : g.stack = argsL.reverse ++ .ref b :: rest) (hW : 2 * g.monitorRoom + (rest.map fun v => v.category).sum ≤ W9) (hdg : decode c.code g.pc = .ok (.invokevirtual index, 3))
    (hpre : ∀ vm₁, s.WarmedH vm₁ → Pre ⟨T.setVm vm₁, locs, cells, slots⟩ (Value.ref b :: argsL).toArray) :
    ∃ (v : Option Value) (vm₁ : Vm) (B : Pt), s.WarmedH vm₁ ∧ Stand p l e R s m args below meth c B.U B.locs B.cells B.slots ∧ Post ⟨T.setVm vm₁, locs, cells, slots⟩ (Value.ref b :: argsL).toArray v B ∧
      ∀ target, Steps p.tables e below (B.U.setTop { g with pc := g.pc + 3, stack := v.toList ++ rest }) target → Steps p.tables e below (T.setTop g) target := by
  obtain ⟨mk, methM, hnamed, hmethM, hstM, habM⟩ := Cond.instanceMethod_spec hinst
  obtain ⟨m8, methM', cM, hn8, hmethM', -, -, -, -, -, -, hsigM⟩ := Cond.codeWith_spec hcode
  cases Option.some.inj (hn8.symm.trans hnamed)
  cases hmethM.symm.trans hmethM'
  obtain ⟨c2, r2, m2, q1, q2, q3, q4, kP, hkP, hkPi⟩ := Cond.selects_spec hsel
  cases hcls.symm.trans q1
  cases (State.methodFound?_of_named hnamed hy).symm.trans q2
  cases hnamed.symm.trans q3
  have hselP : selectMethod e.platform s.vm cellB.cls mk = .method mk := by rw [Launch.admits_selectMethod X.admits]; exact q4
  obtain ⟨vm₁, X₁, hstep₁⟩ := X.invokevirtual hexec hown hlink hnamed hmethM hstM hkP hkPi hy (a := b) (cell := cellB) hcell
    (fun z h => by rw [h] at hobj; cases hobj) hselP hmethM habM hkP hkPi (g := g) hg (argsL := argsL) (rest := rest) (hlen _ hsigM) hstack hdg
  obtain ⟨v, B, X', hpost, hsteps⟩ := hK m meth c ⟨T.setVm vm₁, locs, cells, slots⟩ { g with stack := rest } (.invokevirtual index) mk (Value.ref b :: argsL).toArray X₁ hg hsize hdg hW (X₁.named hnamed) (hpre vm₁ X₁.warmed)
  exact ⟨v, vm₁, B, X₁.warmed, X', hpost, fun target h => hstep₁ _ fun acts => by rw [doInvoke_state]; exact hsteps.trans h⟩
abbrev vx_CVW (R : Room) (s : State) (args : Array Value) (own C : String) (index : Nat) (y : MethodName) (bytes : ByteArray) (maxL : Nat) (ret : Option FieldType) (hh : List (Nat × Nat × Nat × Nat)) (ws : List Cond) (rm : Room) (mc ms n : Nat) : Prop :=
  (rm.cells = mc ∧ rm.slots = ms ∧ rm.frames + 1 ≤ R.frames ∧ 8 + (maxL + 11) + rm.locals ≤ R.locals ∧ (∀ w ∈ ws, ∀ (a' : Array Value) (U : State), s.WarmedH U.vm → w.before a' U = true) ∧ Cond.codeWith y bytes maxL ret hh ∈ ws) ∧
  (Cond.codeWith y bytes maxL ret hh).before args s = true ∧ (Cond.initialized y.cls).before args s = true ∧ (y.cls ≠ "java/lang/invoke/MethodHandle" ∧ y.cls ≠ "java/lang/invoke/VarHandle") ∧
  (∀ sig, parseMethodDescriptor y.desc = some sig → n = sig.parameters.length) ∧ (Cond.methodLink own index y).before args s = true ∧ (Cond.instanceMethod y).before args s = true ∧ (Cond.selects C y y).before args s = true
theorem vx_cwVW {own C : String} {index maxL mc ms : Nat} {y : MethodName} {bytes : ByteArray} {ret : Option FieldType} {hh : List (Nat × Nat × Nat × Nat)} {Ts ws ws' : List Cond} {rm : Room} (n : Nat) (ht : ∀ w ∈ Ts, w.before args s = true) (hT : GoodIn Ts (wsV own index C y ws)) (hw : ws = Cond.codeWith y bytes maxL ret hh :: ws') (hrc : rm.cells = mc) (hrs : rm.slots = ms)
    (hd : y.cls = C ∧ y.cls ≠ "java/lang/invoke/MethodHandle" ∧ y.cls ≠ "java/lang/invoke/VarHandle" ∧ (parseMethodDescriptor y.desc).map (fun d => d.parameters.length) = some n) (hR : rm.frames + 1 ≤ R.frames ∧ 8 + (maxL + 11) + rm.locals ≤ R.locals) :
    vx_CVW R s args own C index y bytes maxL ret hh ws rm mc ms n := by
  obtain ⟨hC, hd⟩ := hd
  subst hC
  have ok : ∀ w ∈ wsV own index y.cls y ws, w.before args s = true := fun w h => ht w (hT w h).1
  have hG : GoodIn Ts ws := fun w h => hT w (by unfold wsV; exact List.mem_append_right _ h)
  have hc : Cond.codeWith y bytes maxL ret hh ∈ ws := by rw [hw]; exact List.mem_cons_self
  refine ⟨⟨hrc, hrs, hR.1, hR.2, pay_in ht hG, hc⟩, ht _ (hG _ hc).1, ok _ (by simp [wsV]), ⟨hd.1, hd.2.1⟩, fun sig h => ?_, ok _ (by simp [wsV]), ok _ (by simp [wsV]), ok _ (by simp [wsV])⟩
  have h2 := hd.2.2
  rw [h] at h2
  exact (Option.some.inj h2).symm
theorem vx_runVW {y : MethodName} {bytes cc : ByteArray} {maxL nL mc ms n index : Nat} {ret : Option FieldType} {hh : List (Nat × Nat × Nat × Nat)} {ws : List Cond} {rm : Room} {Pc : Array Value → State → Prop} {Qc : Array Value → State → Outcome → State → Prop} {free : Addr → Prop} {Ts : List Cond} {own C : String} {b : Addr} {As rest : List Value} {g : JFrame}
    (S : CallFix p m c cc nL s args Ts own) (hM : Met l y ws rm Pc Qc mc ms free) (cw : vx_CVW R s args own C index y bytes maxL ret hh ws rm mc ms n) (hp : PreV s H C b Pc As)
    (hg : g.method = m) (hn : As.length = n) (hsize : g.locals.size = nL) (hstack : g.stack = As.reverse ++ .ref b :: rest) (hW : 2 * g.monitorRoom + (rest.map fun v => v.category).sum ≤ 8) (hdg : decode cc g.pc = .ok (.invokevirtual index, 3)) (hf : cells + mc ≤ R.cells ∧ slots + ms ≤ R.slots) :
    va_Run p l e R s m args below meth c H locs cells slots mc ms g rest (Qc (Value.ref b :: As).toArray) free := by
  obtain ⟨⟨hrc, hrs, hfr, hlo, hws, hcw⟩, hcode, hini, hy, hlen, hl, hin, hse⟩ := cw
  have hK : Back l R p e below s args y 3 8 (PreOf R mc ms Pc) (PostOf Qc mc ms free) := va_backW (hh := hh) (bytes := bytes) (maxL := maxL) (ret := ret) hM hp.1 hrc hrs hfr hlo hws hcw (fun a' U hW => word_at hW (Or.inl (by first | rfl | simp [Cond.onTables, Cond.keeps, Cond.steady])) hini)
  obtain ⟨hx, hb, hml, ho, -⟩ := S
  obtain ⟨-, ⟨cellB, hcB, hoB, hclB⟩, hPc⟩ := hp
  intro T hT X
  obtain ⟨v, vm₁, ⟨U', l2, c2, s2⟩, hW₁, X', ⟨g', mk, t, L, e1, e2, hq, h1, hL, h2, h3⟩, st⟩ := vx_callVW X hx (C := C) (hh := hh) (bytes := bytes) (maxL := maxL) (ret := ret) ho hl hin hse hcode hy hK (by rw [hT]; exact hcB) hoB hclB hg (hsize.trans hml.symm) (argsL := As) (rest := rest) (fun sig h => hn.trans (hlen sig h)) hstack hW (by rw [hb]; exact hdg)
    (fun vm₁ hW₁ => ⟨hf.1, hf.2, hPc (T.setVm vm₁) hT hW₁⟩)
  dsimp only [Pt.U, Pt.locs, Pt.cells, Pt.slots] at X' e1 e2 h1 h2 h3 st
  subst h1; subst h2; subst h3
  exact ⟨v, (T.setVm vm₁).calling g' mk (Value.ref b :: As).toArray, t, U', L, hT, X', hL, e1, e2, hq, st⟩
section
variable {y : MethodName} {bytes cc : ByteArray} {maxL nL mc ms n index : Nat} {ret : Option FieldType} {ws : List Cond} {rm : Room} {Pc : Array Value → State → Prop} {Qc : Array Value → State → Outcome → State → Prop} {XC : String → State → State → Prop} {free : Addr → Prop} {Ts : List Cond} {own C : String} {b : Addr} {As rest : List Value} {g : JFrame}
theorem vx_runVX {hh : List (Nat × Nat × Nat × Nat)} (S : CallFix p m c cc nL s args Ts own) (hM : vx_Met l y ws rm Pc Qc XC mc ms free) (cw : vx_CVW R s args own C index y bytes maxL ret hh ws rm mc ms n) (hp : PreV s H C b Pc As)
    (hg : g.method = m) (hn : As.length = n) (hsize : g.locals.size = nL) (hstack : g.stack = As.reverse ++ .ref b :: rest) (hW : 2 * g.monitorRoom + (rest.map fun v => v.category).sum ≤ 8) (hdg : decode cc g.pc = .ok (.invokevirtual index, 3)) (hf : cells + mc ≤ R.cells ∧ slots + ms ≤ R.slots) :
    vx_Run p l e R s m args below meth c H locs cells slots mc ms g rest (Qc (Value.ref b :: As).toArray) XC free := by
  obtain ⟨⟨hrc, hrs, hfr, hlo, hws, hcw⟩, hcode, hini, hy, hlen, hl, hin, hse⟩ := cw
  have hK : vx_Back l R p e below s args y 3 8 (PreOf R mc ms Pc) (PostOf Qc mc ms free) (vx_Post XC mc ms free) := vx_backW (hh := hh) (bytes := bytes) (maxL := maxL) (ret := ret) hM hp.1 hrc hrs hfr hlo hws hcw (fun a' U hW => word_at hW (Or.inl (by first | rfl | simp [Cond.onTables, Cond.keeps, Cond.steady])) hini)
  obtain ⟨hx, hb, hml, ho, -⟩ := S
  obtain ⟨-, ⟨cellB, hcB, hoB, hclB⟩, hPc⟩ := hp
  intro T hT X
  rcases vx_callVX X hx (C := C) (hh := hh) (bytes := bytes) (maxL := maxL) (ret := ret) ho hl hin hse hcode hy hK (by rw [hT]; exact hcB) hoB hclB hg (hsize.trans hml.symm) (argsL := As) (rest := rest) (fun sig h => hn.trans (hlen sig h)) hstack hW (by rw [hb]; exact hdg)
    (fun vm₁ hW₁ => ⟨hf.1, hf.2, hPc (T.setVm vm₁) hT hW₁⟩) with ⟨v, vm₁, ⟨U', l2, c2, s2⟩, hW₁, X', ⟨g', mk, t, L, e1, e2, hq, h1, hL, h2, h3⟩, st⟩ | ⟨q, vm₁, ⟨U', l2, c2, s2⟩, hW₁, X', ⟨g', mk, t, L, E, ce, e1, e2, hq, hce, hcv, hcl, h1, hL, h2, h3⟩, st⟩
  · dsimp only [Pt.U, Pt.locs, Pt.cells, Pt.slots] at X' e1 e2 h1 h2 h3 st
    subst h1; subst h2; subst h3
    exact Or.inl ⟨v, (T.setVm vm₁).calling g' mk (Value.ref b :: As).toArray, t, U', L, hT, X', hL, e1, e2, hq, st⟩
  · dsimp only [Pt.U, Pt.locs, Pt.cells, Pt.slots] at X' e1 e2 h1 h2 h3 st hcl
    subst h1; subst h2; subst h3
    exact Or.inr ⟨q, (T.setVm vm₁).calling g' mk (Value.ref b :: As).toArray, t, U', L, E, ce, hT, X', hL, e1, e2, hq, hce, hcv, vx_cls hW₁ hcl, st⟩
theorem vx_runSX {hh : List (Nat × Nat × Nat × Nat)} (S : CallFix p m c cc nL s args Ts own) (hM : vx_Met l y ws rm Pc Qc XC mc ms free) (cw : vx_CSW R s args own index y bytes maxL ret hh ws rm mc ms n) (hp : PreS s H Pc As)
    (hg : g.method = m) (hn : As.length = n) (hsize : g.locals.size = nL) (hstack : g.stack = As.reverse ++ rest) (hW : 2 * g.monitorRoom + (rest.map fun v => v.category).sum ≤ 8) (hdg : decode cc g.pc = .ok (.invokestatic index, 3)) (hf : cells + mc ≤ R.cells ∧ slots + ms ≤ R.slots) :
    vx_Run p l e R s m args below meth c H locs cells slots mc ms g rest (Qc As.toArray) XC free := by
  obtain ⟨⟨hrc, hrs, hfr, hlo, hws, hcw⟩, hcode, hini, hy, hlen, hl, hstt⟩ := cw
  have hK : vx_Back l R p e below s args y 3 8 (PreOf R mc ms Pc) (PostOf Qc mc ms free) (vx_Post XC mc ms free) := vx_backW (hh := hh) (bytes := bytes) (maxL := maxL) (ret := ret) hM hp.1 hrc hrs hfr hlo hws hcw (fun a' U hW => word_at hW (Or.inl (by first | rfl | simp [Cond.onTables, Cond.keeps, Cond.steady])) hini)
  obtain ⟨hx, hb, hml, ho, -⟩ := S
  intro T hT X
  rcases vx_callSX X hx (hh := hh) (bytes := bytes) (maxL := maxL) (ret := ret) ho hl hstt hini hcode hy hK hg (hsize.trans hml.symm) (argsL := As) (rest := rest) (fun sig h => hn.trans (hlen sig h)) hstack hW (by rw [hb]; exact hdg)
    (fun vm₁ hW₁ => ⟨hf.1, hf.2, hp.2 (T.setVm vm₁) hT hW₁⟩) with ⟨v, vm₁, ⟨U', l2, c2, s2⟩, hW₁, X', ⟨g', mk, t, L, e1, e2, hq, h1, hL, h2, h3⟩, st⟩ | ⟨q, vm₁, ⟨U', l2, c2, s2⟩, hW₁, X', ⟨g', mk, t, L, E, ce, e1, e2, hq, hce, hcv, hcl, h1, hL, h2, h3⟩, st⟩
  · dsimp only [Pt.U, Pt.locs, Pt.cells, Pt.slots] at X' e1 e2 h1 h2 h3 st
    subst h1; subst h2; subst h3
    exact Or.inl ⟨v, (T.setVm vm₁).calling g' mk As.toArray, t, U', L, hT, X', hL, e1, e2, hq, st⟩
  · dsimp only [Pt.U, Pt.locs, Pt.cells, Pt.slots] at X' e1 e2 h1 h2 h3 st hcl
    subst h1; subst h2; subst h3
    exact Or.inr ⟨q, (T.setVm vm₁).calling g' mk As.toArray, t, U', L, E, ce, hT, X', hL, e1, e2, hq, hce, hcv, vx_cls hW₁ hcl, st⟩
end
end VXH
theorem vx_ofWH {l : Launch} {y : MethodName} {ws ws' : List Cond} {rm : Room} {Pc : Array Value → State → Prop} {Qc : Array Value → State → Outcome → State → Prop} {XC : String → State → State → Prop} {mc ms : Nat} {free : Addr → Prop} {cc : ByteArray} {maxL : Nat} {ret : Option FieldType} {hh : List (Nat × Nat × Nat × Nat)}
    (hy : plainName y.cls = true) (hw : ws = Cond.codeWith y cc maxL ret hh :: ws')
    (body : ∀ p e s m args below meth c s₁, BodyLoose p l y (headSpec ws rm) cc maxL ret e s m args below meth c s₁ → c.maxLocals = maxL → Pc args s →
      W p l e (headSpec ws rm).room s m args below meth c s.heap [] 0 0 (vx_MQ below Qc XC args s mc ms free) (entryFrame m args maxL)) : vx_Met l y ws rm Pc Qc XC mc ms free := by
  refine MetFree.of_bodyS (code := cc) (maxLocals := maxL) (ret := ret) hy ?_ ?_
  · intro args s m h hn
    obtain ⟨m9, meth, c, hn9, h1, h2, h3, h4, -, h5, h6, -⟩ := Cond.codeWith_spec (atoms_spec (ws := ws) h _ (by rw [hw]; exact List.mem_cons_self))
    cases hn.symm.trans hn9
    exact ⟨meth, c, h1, h2, h3, h4, h5, h6⟩
  · intro p e s m args below meth c s₁ B hml hP _
    have hh0 : s₁.heap = s.heap := by rw [B.state]; rfl
    obtain ⟨t, a1, o, b1, b2, b3⟩ := body p e s m args below meth c s₁ B hml hP s₁ hh0 (Stand.of_body B)
    exact ⟨t, o, a1, b1, b2, b3⟩
/-! ===== END ===== -/
end
section
/-! ===== BEGIN printed: names, fields, word lists, decode rows ===== -/
def RX0 : String := "ContextUnfolder$BlockReader"
def TX0 : u_T := fun k => match k with
  | 0 => ("ContextUnfolder$BlockReader", "letters", "LContextUnfolder$LetterReader;", true)
  | 1 => ("ContextUnfolder$BlockReader", "commandCode", "LContextUnfolder$Code;", true)
  | 2 => ("ContextUnfolder$BlockReader", "distanceCode", "LContextUnfolder$Code;", true)
  | _ => ("ContextUnfolder$BlockReader", "end", "I", false)
def tyX0 : Nat → FieldType := fun k => match k with
  | 0 => .object "ContextUnfolder$LetterReader"
  | 1 => .object "ContextUnfolder$Code"
  | 2 => .object "ContextUnfolder$Code"
  | _ => .int
abbrev wsX00 : List Cond := u_ws RX0 TX0 4
theorem nmX0 : ∀ a, a < 4 → ∀ b, b < 4 → a ≠ b → (TX0 a).2.1 ≠ (TX0 b).2.1 := by decide +kernel
theorem tyX0_ok : ∀ k, k < 4 → parseFieldDescriptor (TX0 k).2.2.1 = some (tyX0 k) := by decide +kernel
abbrev cX0_init : ByteArray := prog_2_method_1_code
def yX0_init : MethodName := ⟨RX0, "<init>", "()V"⟩
abbrev cX0_readBlock : ByteArray := prog_2_method_2_code
def yX0_readBlock : MethodName := ⟨RX0, "readBlock", "(LContextUnfolder$Stream;LContextUnfolder$Output;)Z"⟩
abbrev cX0_readPlain : ByteArray := prog_2_method_3_code
def yX0_readPlain : MethodName := ⟨RX0, "readPlain", "(LContextUnfolder$Stream;LContextUnfolder$Output;)V"⟩
abbrev cX0_readCoded : ByteArray := prog_2_method_4_code
def yX0_readCoded : MethodName := ⟨RX0, "readCoded", "(LContextUnfolder$Stream;LContextUnfolder$Output;)V"⟩
abbrev cX0_readCommand : ByteArray := prog_2_method_5_code
def yX0_readCommand : MethodName := ⟨RX0, "readCommand", "(LContextUnfolder$Stream;LContextUnfolder$Output;)V"⟩
abbrev cX0_readPiece : ByteArray := prog_2_method_6_code
def yX0_readPiece : MethodName := ⟨RX0, "readPiece", "(LContextUnfolder$Stream;LContextUnfolder$Output;I)V"⟩
abbrev cX0_readDistance : ByteArray := prog_2_method_7_code
def yX0_readDistance : MethodName := ⟨RX0, "readDistance", "(LContextUnfolder$Stream;I)I"⟩
abbrev cX0_addWord : ByteArray := prog_2_method_8_code
def yX0_addWord : MethodName := ⟨RX0, "addWord", "(LContextUnfolder$Output;II)V"⟩
abbrev cX0_refuseBeyondEnd : ByteArray := prog_2_method_9_code
def yX0_refuseBeyondEnd : MethodName := ⟨RX0, "refuseBeyondEnd", "(LContextUnfolder$Output;I)V"⟩
def RX1 : String := "ContextUnfolder$Code"
def TX1 : u_T := fun k => match k with
  | 0 => ("ContextUnfolder$Code", "lengths", "[I", true)
  | 1 => ("ContextUnfolder$Code", "ordered", "[I", true)
  | _ => ("ContextUnfolder$Code", "wordsOfLength", "[I", true)
def tyX1 : Nat → FieldType := fun k => match k with
  | 0 => .array .int
  | 1 => .array .int
  | _ => .array .int
abbrev wsX10 : List Cond := u_ws RX1 TX1 3
theorem nmX1 : ∀ a, a < 3 → ∀ b, b < 3 → a ≠ b → (TX1 a).2.1 ≠ (TX1 b).2.1 := by decide +kernel
theorem tyX1_ok : ∀ k, k < 3 → parseFieldDescriptor (TX1 k).2.2.1 = some (tyX1 k) := by decide +kernel
abbrev cX1_init : ByteArray := prog_3_method_1_code
def yX1_init : MethodName := ⟨RX1, "<init>", "()V"⟩
abbrev cX1_readCode : ByteArray := prog_3_method_2_code
def yX1_readCode : MethodName := ⟨RX1, "readCode", "(LContextUnfolder$Stream;I)V"⟩
abbrev cX1_readSymbol : ByteArray := prog_3_method_3_code
def yX1_readSymbol : MethodName := ⟨RX1, "readSymbol", "(LContextUnfolder$Stream;)I"⟩
abbrev cX1_readSimple : ByteArray := prog_3_method_4_code
def yX1_readSimple : MethodName := ⟨RX1, "readSimple", "(LContextUnfolder$Stream;I)V"⟩
abbrev cX1_readLengths : ByteArray := prog_3_method_5_code
def yX1_readLengths : MethodName := ⟨RX1, "readLengths", "(LContextUnfolder$Stream;I)V"⟩
abbrev cX1_orderSymbols : ByteArray := prog_3_method_6_code
def yX1_orderSymbols : MethodName := ⟨RX1, "orderSymbols", "(I)V"⟩
abbrev cX1_symbolBits : ByteArray := prog_3_method_7_code
def yX1_symbolBits : MethodName := ⟨RX1, "symbolBits", "(I)I"⟩
def RX2 : String := "ContextUnfolder$LetterReader"
def TX2 : u_T := fun k => match k with
  | 0 => ("ContextUnfolder$LetterReader", "typeCode", "LContextUnfolder$Code;", true)
  | 1 => ("ContextUnfolder$LetterReader", "letterCodes", "[LContextUnfolder$Code;", true)
  | 2 => ("ContextUnfolder$LetterReader", "modes", "[I", true)
  | 3 => ("ContextUnfolder$LetterReader", "map", "[I", true)
  | 4 => ("ContextUnfolder$LetterReader", "row", "[I", true)
  | 5 => ("ContextUnfolder$LetterReader", "types", "I", false)
  | 6 => ("ContextUnfolder$LetterReader", "type", "I", false)
  | 7 => ("ContextUnfolder$LetterReader", "typeBefore", "I", false)
  | _ => ("ContextUnfolder$LetterReader", "stretchLeft", "I", false)
def tyX2 : Nat → FieldType := fun k => match k with
  | 0 => .object "ContextUnfolder$Code"
  | 1 => .array (.object "ContextUnfolder$Code")
  | 2 => .array .int
  | 3 => .array .int
  | 4 => .array .int
  | 5 => .int
  | 6 => .int
  | 7 => .int
  | _ => .int
abbrev wsX20 : List Cond := u_ws RX2 TX2 9
theorem nmX2 : ∀ a, a < 9 → ∀ b, b < 9 → a ≠ b → (TX2 a).2.1 ≠ (TX2 b).2.1 := by decide +kernel
theorem tyX2_ok : ∀ k, k < 9 → parseFieldDescriptor (TX2 k).2.2.1 = some (tyX2 k) := by decide +kernel
abbrev cX2_init : ByteArray := prog_4_method_1_code
def yX2_init : MethodName := ⟨RX2, "<init>", "()V"⟩
abbrev cX2_readTypes : ByteArray := prog_4_method_2_code
def yX2_readTypes : MethodName := ⟨RX2, "readTypes", "(LContextUnfolder$Stream;)V"⟩
abbrev cX2_readLetterCodes : ByteArray := prog_4_method_3_code
def yX2_readLetterCodes : MethodName := ⟨RX2, "readLetterCodes", "(LContextUnfolder$Stream;)V"⟩
abbrev cX2_stretchIsOver : ByteArray := prog_4_method_4_code
def yX2_stretchIsOver : MethodName := ⟨RX2, "stretchIsOver", "()Z"⟩
abbrev cX2_readStretch : ByteArray := prog_4_method_5_code
def yX2_readStretch : MethodName := ⟨RX2, "readStretch", "(LContextUnfolder$Stream;)V"⟩
abbrev cX2_readLetter : ByteArray := prog_4_method_6_code
def yX2_readLetter : MethodName := ⟨RX2, "readLetter", "(LContextUnfolder$Stream;II)I"⟩
abbrev cX2_readMap : ByteArray := prog_4_method_7_code
def yX2_readMap : MethodName := ⟨RX2, "readMap", "(LContextUnfolder$Stream;I)V"⟩
abbrev cX2_replacePlaces : ByteArray := prog_4_method_8_code
def yX2_replacePlaces : MethodName := ⟨RX2, "replacePlaces", "(I)V"⟩
abbrev cX2_context : ByteArray := prog_4_method_9_code
def yX2_context : MethodName := ⟨RX2, "context", "(III)I"⟩
def RX3 : String := "ContextUnfolder$Output"
def TX3 : u_T := fun k => match k with
  | 0 => ("ContextUnfolder$Output", "letters", "[I", true)
  | 1 => ("ContextUnfolder$Output", "counts", "[I", true)
  | _ => ("ContextUnfolder$Output", "size", "I", false)
def tyX3 : Nat → FieldType := fun k => match k with
  | 0 => .array .int
  | 1 => .array .int
  | _ => .int
abbrev wsX30 : List Cond := u_ws RX3 TX3 3
theorem nmX3 : ∀ a, a < 3 → ∀ b, b < 3 → a ≠ b → (TX3 a).2.1 ≠ (TX3 b).2.1 := by decide +kernel
theorem tyX3_ok : ∀ k, k < 3 → parseFieldDescriptor (TX3 k).2.2.1 = some (tyX3 k) := by decide +kernel
abbrev cX3_init : ByteArray := prog_5_method_1_code
def yX3_init : MethodName := ⟨RX3, "<init>", "()V"⟩
abbrev cX3_clear : ByteArray := prog_5_method_2_code
def yX3_clear : MethodName := ⟨RX3, "clear", "()V"⟩
abbrev cX3_add : ByteArray := prog_5_method_3_code
def yX3_add : MethodName := ⟨RX3, "add", "(II)V"⟩
abbrev cX3_back : ByteArray := prog_5_method_4_code
def yX3_back : MethodName := ⟨RX3, "back", "(I)I"⟩
abbrev cX3_remember : ByteArray := prog_5_method_5_code
def yX3_remember : MethodName := ⟨RX3, "remember", "(I)V"⟩
def RX4 : String := "ContextUnfolder$Stream"
def TX4 : u_T := fun k => match k with
  | 0 => ("ContextUnfolder$Stream", "bits", "[Z", true)
  | 1 => ("ContextUnfolder$Stream", "size", "I", false)
  | _ => ("ContextUnfolder$Stream", "position", "I", false)
def tyX4 : Nat → FieldType := fun k => match k with
  | 0 => .array .boolean
  | 1 => .int
  | _ => .int
abbrev wsX40 : List Cond := u_ws RX4 TX4 3
theorem nmX4 : ∀ a, a < 3 → ∀ b, b < 3 → a ≠ b → (TX4 a).2.1 ≠ (TX4 b).2.1 := by decide +kernel
theorem tyX4_ok : ∀ k, k < 3 → parseFieldDescriptor (TX4 k).2.2.1 = some (tyX4 k) := by decide +kernel
abbrev cX4_init : ByteArray := prog_6_method_1_code
def yX4_init : MethodName := ⟨RX4, "<init>", "()V"⟩
abbrev cX4_append : ByteArray := prog_6_method_2_code
def yX4_append : MethodName := ⟨RX4, "append", "(II)V"⟩
abbrev cX4_readNumber : ByteArray := prog_6_method_3_code
def yX4_readNumber : MethodName := ⟨RX4, "readNumber", "(I)I"⟩
def RX5 : String := "ContextUnfolder"
def TX5 : u_T := fun k => match k with
  | 0 => ("ContextUnfolder", "stream", "LContextUnfolder$Stream;", true)
  | 1 => ("ContextUnfolder", "blocks", "LContextUnfolder$BlockReader;", true)
  | 2 => ("ContextUnfolder", "shown", "LContextUnfolder$Output;", false)
  | _ => ("ContextUnfolder", "spare", "LContextUnfolder$Output;", false)
def tyX5 : Nat → FieldType := fun k => match k with
  | 0 => .object "ContextUnfolder$Stream"
  | 1 => .object "ContextUnfolder$BlockReader"
  | 2 => .object "ContextUnfolder$Output"
  | _ => .object "ContextUnfolder$Output"
abbrev wsX50 : List Cond := u_ws RX5 TX5 4
theorem nmX5 : ∀ a, a < 4 → ∀ b, b < 4 → a ≠ b → (TX5 a).2.1 ≠ (TX5 b).2.1 := by decide +kernel
theorem tyX5_ok : ∀ k, k < 4 → parseFieldDescriptor (TX5 k).2.2.1 = some (tyX5 k) := by decide +kernel
abbrev cX5_init : ByteArray := prog_1_method_1_code
def yX5_init : MethodName := ⟨RX5, "<init>", "()V"⟩
abbrev cX5_put : ByteArray := prog_1_method_2_code
def yX5_put : MethodName := ⟨RX5, "put", "(II)I"⟩
abbrev cX5_bit : ByteArray := prog_1_method_3_code
def yX5_bit : MethodName := ⟨RX5, "bit", "(I)Z"⟩
abbrev cX5_flip : ByteArray := prog_1_method_4_code
def yX5_flip : MethodName := ⟨RX5, "flip", "(I)V"⟩
abbrev cX5_cut : ByteArray := prog_1_method_5_code
def yX5_cut : MethodName := ⟨RX5, "cut", "(I)I"⟩
abbrev cX5_unfold : ByteArray := prog_1_method_6_code
def yX5_unfold : MethodName := ⟨RX5, "unfold", "()I"⟩
abbrev cX5_taken : ByteArray := prog_1_method_7_code
def yX5_taken : MethodName := ⟨RX5, "taken", "()I"⟩
abbrev cX5_letter : ByteArray := prog_1_method_8_code
def yX5_letter : MethodName := ⟨RX5, "letter", "(I)I"⟩
abbrev cX5_count : ByteArray := prog_1_method_9_code
def yX5_count : MethodName := ⟨RX5, "count", "(I)I"⟩
def RX6 : String := "ContextUnfolderModel"
def TX6 : u_T := fun k => match k with
  | 0 => ("ContextUnfolderModel", "thrown", "I", false)
  | 1 => ("ContextUnfolderModel", "length", "I", false)
  | 2 => ("ContextUnfolderModel", "stream", "[Z", false)
  | 3 => ("ContextUnfolderModel", "at", "I", false)
  | 4 => ("ContextUnfolderModel", "wrong", "Z", false)
  | 5 => ("ContextUnfolderModel", "letters", "I", false)
  | 6 => ("ContextUnfolderModel", "output", "[I", false)
  | 7 => ("ContextUnfolderModel", "made", "I", false)
  | 8 => ("ContextUnfolderModel", "making", "[I", false)
  | 9 => ("ContextUnfolderModel", "counts", "[I", false)
  | 10 => ("ContextUnfolderModel", "counting", "[I", false)
  | 11 => ("ContextUnfolderModel", "lengths", "[I", false)
  | 12 => ("ContextUnfolderModel", "alone", "[I", false)
  | 13 => ("ContextUnfolderModel", "simple", "[I", false)
  | 14 => ("ContextUnfolderModel", "types", "I", false)
  | 15 => ("ContextUnfolderModel", "type", "I", false)
  | 16 => ("ContextUnfolderModel", "before", "I", false)
  | 17 => ("ContextUnfolderModel", "stretch", "I", false)
  | 18 => ("ContextUnfolderModel", "modes", "[I", false)
  | 19 => ("ContextUnfolderModel", "map", "[I", false)
  | _ => ("ContextUnfolderModel", "row", "[I", false)
def tyX6 : Nat → FieldType := fun k => match k with
  | 0 => .int
  | 1 => .int
  | 2 => .array .boolean
  | 3 => .int
  | 4 => .boolean
  | 5 => .int
  | 6 => .array .int
  | 7 => .int
  | 8 => .array .int
  | 9 => .array .int
  | 10 => .array .int
  | 11 => .array .int
  | 12 => .array .int
  | 13 => .array .int
  | 14 => .int
  | 15 => .int
  | 16 => .int
  | 17 => .int
  | 18 => .array .int
  | 19 => .array .int
  | _ => .array .int
abbrev wsX60 : List Cond := u_ws RX6 TX6 21
theorem nmX6 : ∀ a, a < 21 → ∀ b, b < 21 → a ≠ b → (TX6 a).2.1 ≠ (TX6 b).2.1 := by decide +kernel
theorem tyX6_ok : ∀ k, k < 21 → parseFieldDescriptor (TX6 k).2.2.1 = some (tyX6 k) := by decide +kernel
abbrev cX6_init : ByteArray := prog_8_method_1_code
def yX6_init : MethodName := ⟨RX6, "<init>", "()V"⟩
abbrev cX6_thrown : ByteArray := prog_8_method_2_code
def yX6_thrown : MethodName := ⟨RX6, "thrown", "()I"⟩
abbrev cX6_first : ByteArray := prog_8_method_3_code
def yX6_first : MethodName := ⟨RX6, "first", "([I)V"⟩
abbrev cX6_put : ByteArray := prog_8_method_4_code
def yX6_put : MethodName := ⟨RX6, "put", "(II)I"⟩
abbrev cX6_noBit : ByteArray := prog_8_method_5_code
def yX6_noBit : MethodName := ⟨RX6, "noBit", "(I)Z"⟩
abbrev cX6_bit : ByteArray := prog_8_method_6_code
def yX6_bit : MethodName := ⟨RX6, "bit", "(I)Z"⟩
abbrev cX6_flip : ByteArray := prog_8_method_7_code
def yX6_flip : MethodName := ⟨RX6, "flip", "(I)V"⟩
abbrev cX6_cut : ByteArray := prog_8_method_8_code
def yX6_cut : MethodName := ⟨RX6, "cut", "(I)I"⟩
abbrev cX6_number : ByteArray := prog_8_method_9_code
def yX6_number : MethodName := ⟨RX6, "number", "(I)I"⟩
abbrev cX6_widthOf : ByteArray := prog_8_method_10_code
def yX6_widthOf : MethodName := ⟨RX6, "widthOf", "(I)I"⟩
abbrev cX6_readSimple : ByteArray := prog_8_method_11_code
def yX6_readSimple : MethodName := ⟨RX6, "readSimple", "(II)V"⟩
abbrev cX6_readCode : ByteArray := prog_8_method_12_code
def yX6_readCode : MethodName := ⟨RX6, "readCode", "(II)V"⟩
abbrev cX6_wordOf : ByteArray := prog_8_method_13_code
def yX6_wordOf : MethodName := ⟨RX6, "wordOf", "(II)I"⟩
abbrev cX6_symbol : ByteArray := prog_8_method_14_code
def yX6_symbol : MethodName := ⟨RX6, "symbol", "(I)I"⟩
abbrev cX6_plain : ByteArray := prog_8_method_15_code
def yX6_plain : MethodName := ⟨RX6, "plain", "(I)V"⟩
abbrev cX6_add : ByteArray := prog_8_method_16_code
def yX6_add : MethodName := ⟨RX6, "add", "(I)V"⟩
abbrev cX6_readMap : ByteArray := prog_8_method_17_code
def yX6_readMap : MethodName := ⟨RX6, "readMap", "(I)V"⟩
abbrev cX6_readHead : ByteArray := prog_8_method_18_code
def yX6_readHead : MethodName := ⟨RX6, "readHead", "()V"⟩
abbrev cX6_turn : ByteArray := prog_8_method_19_code
def yX6_turn : MethodName := ⟨RX6, "turn", "()V"⟩
abbrev cX6_context : ByteArray := prog_8_method_20_code
def yX6_context : MethodName := ⟨RX6, "context", "()I"⟩
abbrev cX6_readLetter : ByteArray := prog_8_method_21_code
def yX6_readLetter : MethodName := ⟨RX6, "readLetter", "()V"⟩
abbrev cX6_baseOf : ByteArray := prog_8_method_22_code
def yX6_baseOf : MethodName := ⟨RX6, "baseOf", "(II)I"⟩
abbrev cX6_wordLetter : ByteArray := prog_8_method_23_code
def yX6_wordLetter : MethodName := ⟨RX6, "wordLetter", "(III)I"⟩
abbrev cX6_dictionary : ByteArray := prog_8_method_24_code
def yX6_dictionary : MethodName := ⟨RX6, "dictionary", "(III)I"⟩
abbrev cX6_piece : ByteArray := prog_8_method_25_code
def yX6_piece : MethodName := ⟨RX6, "piece", "(II)I"⟩
abbrev cX6_commands : ByteArray := prog_8_method_26_code
def yX6_commands : MethodName := ⟨RX6, "commands", "(I)V"⟩
abbrev cX6_block : ByteArray := prog_8_method_27_code
def yX6_block : MethodName := ⟨RX6, "block", "()Z"⟩
abbrev cX6_unfold : ByteArray := prog_8_method_28_code
def yX6_unfold : MethodName := ⟨RX6, "unfold", "()I"⟩
abbrev cX6_taken : ByteArray := prog_8_method_29_code
def yX6_taken : MethodName := ⟨RX6, "taken", "()I"⟩
abbrev cX6_letter : ByteArray := prog_8_method_30_code
def yX6_letter : MethodName := ⟨RX6, "letter", "(I)I"⟩
abbrev cX6_count : ByteArray := prog_8_method_31_code
def yX6_count : MethodName := ⟨RX6, "count", "(I)I"⟩
def RJx8e188 : String := "java/lang/Cloneable"
def TJx8e188 : u_T := fun k => match k with
  | _ => ("", "", "", false)
def tyJx8e188 : Nat → FieldType := fun k => match k with
  | _ => .int
abbrev wsJx8e1880 : List Cond := u_ws RJx8e188 TJx8e188 0
theorem nmJx8e188 : ∀ a, a < 0 → ∀ b, b < 0 → a ≠ b → (TJx8e188 a).2.1 ≠ (TJx8e188 b).2.1 := by decide +kernel
theorem tyJx8e188_ok : ∀ k, k < 0 → parseFieldDescriptor (TJx8e188 k).2.2.1 = some (tyJx8e188 k) := by decide +kernel
def RJ0 : String := "java/lang/String"
def TJ0 : u_T := fun k => match k with
  | _ => ("", "", "", false)
def tyJ0 : Nat → FieldType := fun k => match k with
  | _ => .int
abbrev wsJ00 : List Cond := u_ws RJ0 TJ0 0
theorem nmJ0 : ∀ a, a < 0 → ∀ b, b < 0 → a ≠ b → (TJ0 a).2.1 ≠ (TJ0 b).2.1 := by decide +kernel
theorem tyJ0_ok : ∀ k, k < 0 → parseFieldDescriptor (TJ0 k).2.2.1 = some (tyJ0 k) := by decide +kernel
def RJ10 : String := "java/lang/System"
def TJ10 : u_T := fun k => match k with
  | _ => ("", "", "", false)
def tyJ10 : Nat → FieldType := fun k => match k with
  | _ => .int
abbrev wsJ100 : List Cond := u_ws RJ10 TJ10 0
theorem nmJ10 : ∀ a, a < 0 → ∀ b, b < 0 → a ≠ b → (TJ10 a).2.1 ≠ (TJ10 b).2.1 := by decide +kernel
theorem tyJ10_ok : ∀ k, k < 0 → parseFieldDescriptor (TJ10 k).2.2.1 = some (tyJ10 k) := by decide +kernel
def RJ7 : String := "java/util/Arrays"
def TJ7 : u_T := fun k => match k with
  | _ => ("", "", "", false)
def tyJ7 : Nat → FieldType := fun k => match k with
  | _ => .int
abbrev wsJ70 : List Cond := u_ws RJ7 TJ7 0
theorem nmJ7 : ∀ a, a < 0 → ∀ b, b < 0 → a ≠ b → (TJ7 a).2.1 ≠ (TJ7 b).2.1 := by decide +kernel
theorem tyJ7_ok : ∀ k, k < 0 → parseFieldDescriptor (TJ7 k).2.2.1 = some (tyJ7 k) := by decide +kernel
abbrev cJ7_fill_53178 : ByteArray := prog_18_method_103_code
def yJ7_fill_53178 : MethodName := ⟨RJ7, "fill", "([II)V"⟩
def RL : String := "ContextUnfolderLaw"
abbrev cL_put : ByteArray := method_3_code
def yL_put : MethodName := ⟨RL, "put", "(LContextUnfolder;II[J)I"⟩
abbrev cL_bit : ByteArray := method_4_code
def yL_bit : MethodName := ⟨RL, "bit", "(LContextUnfolder;I[J)I"⟩
abbrev cL_flip : ByteArray := method_5_code
def yL_flip : MethodName := ⟨RL, "flip", "(LContextUnfolder;I)I"⟩
abbrev cL_cut : ByteArray := method_6_code
def yL_cut : MethodName := ⟨RL, "cut", "(LContextUnfolder;I[J)I"⟩
abbrev cL_unfold : ByteArray := method_7_code
def yL_unfold : MethodName := ⟨RL, "unfold", "(LContextUnfolder;[J)I"⟩
abbrev cL_letter : ByteArray := method_8_code
def yL_letter : MethodName := ⟨RL, "letter", "(LContextUnfolder;I[J)I"⟩
abbrev cL_count : ByteArray := method_9_code
def yL_count : MethodName := ⟨RL, "count", "(LContextUnfolder;I[J)I"⟩
abbrev cL_law : ByteArray := code
def yL_law : MethodName := ⟨RL, "law", "([I)Z"⟩
abbrev vwCl : List vw_C := [(RX0, TX0, 4), (RX1, TX1, 3), (RX2, TX2, 9), (RX3, TX3, 3), (RX4, TX4, 3), (RX5, TX5, 4), (RX6, TX6, 21)]
end
section
theorem dX0_init_0 : decode cX0_init 0 = .ok (.aload_n 0, 1) := by decide +kernel
theorem dX0_init_1 : decode cX0_init 1 = .ok (.invokespecial 3, 3) := by decide +kernel
theorem dX0_init_4 : decode cX0_init 4 = .ok (.aload_n 0, 1) := by decide +kernel
theorem dX0_init_5 : decode cX0_init 5 = .ok (.new 9, 3) := by decide +kernel
theorem dX0_init_8 : decode cX0_init 8 = .ok (.dup, 1) := by decide +kernel
theorem dX0_init_9 : decode cX0_init 9 = .ok (.invokespecial 11, 3) := by decide +kernel
theorem dX0_init_12 : decode cX0_init 12 = .ok (.putfield 12, 3) := by decide +kernel
theorem dX0_init_15 : decode cX0_init 15 = .ok (.aload_n 0, 1) := by decide +kernel
theorem dX0_init_16 : decode cX0_init 16 = .ok (.new 18, 3) := by decide +kernel
theorem dX0_init_19 : decode cX0_init 19 = .ok (.dup, 1) := by decide +kernel
theorem dX0_init_20 : decode cX0_init 20 = .ok (.invokespecial 20, 3) := by decide +kernel
theorem dX0_init_23 : decode cX0_init 23 = .ok (.putfield 21, 3) := by decide +kernel
theorem dX0_init_26 : decode cX0_init 26 = .ok (.aload_n 0, 1) := by decide +kernel
theorem dX0_init_27 : decode cX0_init 27 = .ok (.new 18, 3) := by decide +kernel
theorem dX0_init_30 : decode cX0_init 30 = .ok (.dup, 1) := by decide +kernel
theorem dX0_init_31 : decode cX0_init 31 = .ok (.invokespecial 20, 3) := by decide +kernel
theorem dX0_init_34 : decode cX0_init 34 = .ok (.putfield 25, 3) := by decide +kernel
theorem dX0_init_37 : decode cX0_init 37 = .ok (.return_, 1) := by decide +kernel
theorem dX0_readBlock_0 : decode cX0_readBlock 0 = .ok (.aload_n 1, 1) := by decide +kernel
theorem dX0_readBlock_1 : decode cX0_readBlock 1 = .ok (.iconst 1, 1) := by decide +kernel
theorem dX0_readBlock_2 : decode cX0_readBlock 2 = .ok (.invokevirtual 28, 3) := by decide +kernel
theorem dX0_readBlock_5 : decode cX0_readBlock 5 = .ok (.iconst 1, 1) := by decide +kernel
theorem dX0_readBlock_6 : decode cX0_readBlock 6 = .ok (.if_icmp .ne 7, 3) := by decide +kernel
theorem dX0_readBlock_9 : decode cX0_readBlock 9 = .ok (.iconst 1, 1) := by decide +kernel
theorem dX0_readBlock_10 : decode cX0_readBlock 10 = .ok (.goto 4, 3) := by decide +kernel
theorem dX0_readBlock_13 : decode cX0_readBlock 13 = .ok (.iconst 0, 1) := by decide +kernel
theorem dX0_readBlock_14 : decode cX0_readBlock 14 = .ok (.istore_n 3, 1) := by decide +kernel
theorem dX0_readBlock_15 : decode cX0_readBlock 15 = .ok (.aload_n 2, 1) := by decide +kernel
theorem dX0_readBlock_16 : decode cX0_readBlock 16 = .ok (.getfield 34, 3) := by decide +kernel
theorem dX0_readBlock_19 : decode cX0_readBlock 19 = .ok (.iconst 0, 1) := by decide +kernel
theorem dX0_readBlock_20 : decode cX0_readBlock 20 = .ok (.dup2, 1) := by decide +kernel
theorem dX0_readBlock_21 : decode cX0_readBlock 21 = .ok (.iaload, 1) := by decide +kernel
theorem dX0_readBlock_22 : decode cX0_readBlock 22 = .ok (.iconst 1, 1) := by decide +kernel
theorem dX0_readBlock_23 : decode cX0_readBlock 23 = .ok (.iadd, 1) := by decide +kernel
theorem dX0_readBlock_24 : decode cX0_readBlock 24 = .ok (.iastore, 1) := by decide +kernel
theorem dX0_readBlock_25 : decode cX0_readBlock 25 = .ok (.iload_n 3, 1) := by decide +kernel
theorem dX0_readBlock_26 : decode cX0_readBlock 26 = .ok (.ifCond .eq 14, 3) := by decide +kernel
theorem dX0_readBlock_29 : decode cX0_readBlock 29 = .ok (.aload_n 1, 1) := by decide +kernel
theorem dX0_readBlock_30 : decode cX0_readBlock 30 = .ok (.iconst 1, 1) := by decide +kernel
theorem dX0_readBlock_31 : decode cX0_readBlock 31 = .ok (.invokevirtual 28, 3) := by decide +kernel
theorem dX0_readBlock_34 : decode cX0_readBlock 34 = .ok (.iconst 1, 1) := by decide +kernel
theorem dX0_readBlock_35 : decode cX0_readBlock 35 = .ok (.if_icmp .ne 5, 3) := by decide +kernel
theorem dX0_readBlock_38 : decode cX0_readBlock 38 = .ok (.iconst 1, 1) := by decide +kernel
theorem dX0_readBlock_39 : decode cX0_readBlock 39 = .ok (.ireturn, 1) := by decide +kernel
theorem dX0_readBlock_40 : decode cX0_readBlock 40 = .ok (.aload_n 0, 1) := by decide +kernel
theorem dX0_readBlock_41 : decode cX0_readBlock 41 = .ok (.aload_n 2, 1) := by decide +kernel
theorem dX0_readBlock_42 : decode cX0_readBlock 42 = .ok (.getfield 40, 3) := by decide +kernel
theorem dX0_readBlock_45 : decode cX0_readBlock 45 = .ok (.aload_n 1, 1) := by decide +kernel
theorem dX0_readBlock_46 : decode cX0_readBlock 46 = .ok (.bipush 8, 2) := by decide +kernel
theorem dX0_readBlock_48 : decode cX0_readBlock 48 = .ok (.invokevirtual 28, 3) := by decide +kernel
theorem dX0_readBlock_51 : decode cX0_readBlock 51 = .ok (.iadd, 1) := by decide +kernel
theorem dX0_readBlock_52 : decode cX0_readBlock 52 = .ok (.iconst 1, 1) := by decide +kernel
theorem dX0_readBlock_53 : decode cX0_readBlock 53 = .ok (.iadd, 1) := by decide +kernel
theorem dX0_readBlock_54 : decode cX0_readBlock 54 = .ok (.putfield 44, 3) := by decide +kernel
theorem dX0_readBlock_57 : decode cX0_readBlock 57 = .ok (.aload_n 0, 1) := by decide +kernel
theorem dX0_readBlock_58 : decode cX0_readBlock 58 = .ok (.getfield 44, 3) := by decide +kernel
theorem dX0_readBlock_61 : decode cX0_readBlock 61 = .ok (.sipush 400, 3) := by decide +kernel
theorem dX0_readBlock_64 : decode cX0_readBlock 64 = .ok (.if_icmp .le 13, 3) := by decide +kernel
theorem dX0_readBlock_67 : decode cX0_readBlock 67 = .ok (.new 47, 3) := by decide +kernel
theorem dX0_readBlock_70 : decode cX0_readBlock 70 = .ok (.dup, 1) := by decide +kernel
theorem dX0_readBlock_71 : decode cX0_readBlock 71 = .ok (.ldc 49, 2) := by decide +kernel
theorem dX0_readBlock_73 : decode cX0_readBlock 73 = .ok (.invokespecial 51, 3) := by decide +kernel
theorem dX0_readBlock_76 : decode cX0_readBlock 76 = .ok (.athrow, 1) := by decide +kernel
theorem dX0_readBlock_77 : decode cX0_readBlock 77 = .ok (.iload_n 3, 1) := by decide +kernel
theorem dX0_readBlock_78 : decode cX0_readBlock 78 = .ok (.ifCond .ne 21, 3) := by decide +kernel
theorem dX0_readBlock_81 : decode cX0_readBlock 81 = .ok (.aload_n 1, 1) := by decide +kernel
theorem dX0_readBlock_82 : decode cX0_readBlock 82 = .ok (.iconst 1, 1) := by decide +kernel
theorem dX0_readBlock_83 : decode cX0_readBlock 83 = .ok (.invokevirtual 28, 3) := by decide +kernel
theorem dX0_readBlock_86 : decode cX0_readBlock 86 = .ok (.iconst 1, 1) := by decide +kernel
theorem dX0_readBlock_87 : decode cX0_readBlock 87 = .ok (.if_icmp .ne 12, 3) := by decide +kernel
theorem dX0_readBlock_90 : decode cX0_readBlock 90 = .ok (.aload_n 0, 1) := by decide +kernel
theorem dX0_readBlock_91 : decode cX0_readBlock 91 = .ok (.aload_n 1, 1) := by decide +kernel
theorem dX0_readBlock_92 : decode cX0_readBlock 92 = .ok (.aload_n 2, 1) := by decide +kernel
theorem dX0_readBlock_93 : decode cX0_readBlock 93 = .ok (.invokevirtual 54, 3) := by decide +kernel
theorem dX0_readBlock_96 : decode cX0_readBlock 96 = .ok (.goto 9, 3) := by decide +kernel
theorem dX0_readBlock_99 : decode cX0_readBlock 99 = .ok (.aload_n 0, 1) := by decide +kernel
theorem dX0_readBlock_100 : decode cX0_readBlock 100 = .ok (.aload_n 1, 1) := by decide +kernel
theorem dX0_readBlock_101 : decode cX0_readBlock 101 = .ok (.aload_n 2, 1) := by decide +kernel
theorem dX0_readBlock_102 : decode cX0_readBlock 102 = .ok (.invokevirtual 58, 3) := by decide +kernel
theorem dX0_readBlock_105 : decode cX0_readBlock 105 = .ok (.iload_n 3, 1) := by decide +kernel
theorem dX0_readBlock_106 : decode cX0_readBlock 106 = .ok (.ireturn, 1) := by decide +kernel
theorem dX0_readPlain_0 : decode cX0_readPlain 0 = .ok (.aload_n 2, 1) := by decide +kernel
theorem dX0_readPlain_1 : decode cX0_readPlain 1 = .ok (.getfield 40, 3) := by decide +kernel
theorem dX0_readPlain_4 : decode cX0_readPlain 4 = .ok (.istore_n 3, 1) := by decide +kernel
theorem dX0_readPlain_5 : decode cX0_readPlain 5 = .ok (.iload_n 3, 1) := by decide +kernel
theorem dX0_readPlain_6 : decode cX0_readPlain 6 = .ok (.aload_n 0, 1) := by decide +kernel
theorem dX0_readPlain_7 : decode cX0_readPlain 7 = .ok (.getfield 44, 3) := by decide +kernel
theorem dX0_readPlain_10 : decode cX0_readPlain 10 = .ok (.if_icmp .ge 19, 3) := by decide +kernel
theorem dX0_readPlain_13 : decode cX0_readPlain 13 = .ok (.aload_n 2, 1) := by decide +kernel
theorem dX0_readPlain_14 : decode cX0_readPlain 14 = .ok (.aload_n 1, 1) := by decide +kernel
theorem dX0_readPlain_15 : decode cX0_readPlain 15 = .ok (.iconst 5, 1) := by decide +kernel
theorem dX0_readPlain_16 : decode cX0_readPlain 16 = .ok (.invokevirtual 28, 3) := by decide +kernel
theorem dX0_readPlain_19 : decode cX0_readPlain 19 = .ok (.iconst 1, 1) := by decide +kernel
theorem dX0_readPlain_20 : decode cX0_readPlain 20 = .ok (.invokevirtual 61, 3) := by decide +kernel
theorem dX0_readPlain_23 : decode cX0_readPlain 23 = .ok (.iinc 3 1, 3) := by decide +kernel
theorem dX0_readPlain_26 : decode cX0_readPlain 26 = .ok (.goto (-21), 3) := by decide +kernel
theorem dX0_readPlain_29 : decode cX0_readPlain 29 = .ok (.return_, 1) := by decide +kernel
theorem dX0_readCoded_0 : decode cX0_readCoded 0 = .ok (.aload_n 0, 1) := by decide +kernel
theorem dX0_readCoded_1 : decode cX0_readCoded 1 = .ok (.getfield 12, 3) := by decide +kernel
theorem dX0_readCoded_4 : decode cX0_readCoded 4 = .ok (.aload_n 1, 1) := by decide +kernel
theorem dX0_readCoded_5 : decode cX0_readCoded 5 = .ok (.invokevirtual 65, 3) := by decide +kernel
theorem dX0_readCoded_8 : decode cX0_readCoded 8 = .ok (.aload_n 0, 1) := by decide +kernel
theorem dX0_readCoded_9 : decode cX0_readCoded 9 = .ok (.getfield 12, 3) := by decide +kernel
theorem dX0_readCoded_12 : decode cX0_readCoded 12 = .ok (.aload_n 1, 1) := by decide +kernel
theorem dX0_readCoded_13 : decode cX0_readCoded 13 = .ok (.invokevirtual 69, 3) := by decide +kernel
theorem dX0_readCoded_16 : decode cX0_readCoded 16 = .ok (.aload_n 0, 1) := by decide +kernel
theorem dX0_readCoded_17 : decode cX0_readCoded 17 = .ok (.getfield 21, 3) := by decide +kernel
theorem dX0_readCoded_20 : decode cX0_readCoded 20 = .ok (.aload_n 1, 1) := by decide +kernel
theorem dX0_readCoded_21 : decode cX0_readCoded 21 = .ok (.bipush 16, 2) := by decide +kernel
theorem dX0_readCoded_23 : decode cX0_readCoded 23 = .ok (.invokevirtual 72, 3) := by decide +kernel
theorem dX0_readCoded_26 : decode cX0_readCoded 26 = .ok (.aload_n 0, 1) := by decide +kernel
theorem dX0_readCoded_27 : decode cX0_readCoded 27 = .ok (.getfield 25, 3) := by decide +kernel
theorem dX0_readCoded_30 : decode cX0_readCoded 30 = .ok (.aload_n 1, 1) := by decide +kernel
theorem dX0_readCoded_31 : decode cX0_readCoded 31 = .ok (.bipush 12, 2) := by decide +kernel
theorem dX0_readCoded_33 : decode cX0_readCoded 33 = .ok (.invokevirtual 72, 3) := by decide +kernel
theorem dX0_readCoded_36 : decode cX0_readCoded 36 = .ok (.iconst 0, 1) := by decide +kernel
theorem dX0_readCoded_37 : decode cX0_readCoded 37 = .ok (.istore_n 3, 1) := by decide +kernel
theorem dX0_readCoded_38 : decode cX0_readCoded 38 = .ok (.iload_n 3, 1) := by decide +kernel
theorem dX0_readCoded_39 : decode cX0_readCoded 39 = .ok (.sipush 400, 3) := by decide +kernel
theorem dX0_readCoded_42 : decode cX0_readCoded 42 = .ok (.if_icmp .ge 26, 3) := by decide +kernel
theorem dX0_readCoded_45 : decode cX0_readCoded 45 = .ok (.aload_n 2, 1) := by decide +kernel
theorem dX0_readCoded_46 : decode cX0_readCoded 46 = .ok (.getfield 40, 3) := by decide +kernel
theorem dX0_readCoded_49 : decode cX0_readCoded 49 = .ok (.aload_n 0, 1) := by decide +kernel
theorem dX0_readCoded_50 : decode cX0_readCoded 50 = .ok (.getfield 44, 3) := by decide +kernel
theorem dX0_readCoded_53 : decode cX0_readCoded 53 = .ok (.if_icmp .ge 15, 3) := by decide +kernel
theorem dX0_readCoded_56 : decode cX0_readCoded 56 = .ok (.aload_n 0, 1) := by decide +kernel
theorem dX0_readCoded_57 : decode cX0_readCoded 57 = .ok (.aload_n 1, 1) := by decide +kernel
theorem dX0_readCoded_58 : decode cX0_readCoded 58 = .ok (.aload_n 2, 1) := by decide +kernel
theorem dX0_readCoded_59 : decode cX0_readCoded 59 = .ok (.invokevirtual 76, 3) := by decide +kernel
theorem dX0_readCoded_62 : decode cX0_readCoded 62 = .ok (.iinc 3 1, 3) := by decide +kernel
theorem dX0_readCoded_65 : decode cX0_readCoded 65 = .ok (.goto (-27), 3) := by decide +kernel
theorem dX0_readCoded_68 : decode cX0_readCoded 68 = .ok (.return_, 1) := by decide +kernel
theorem dX0_readCommand_0 : decode cX0_readCommand 0 = .ok (.aload_n 0, 1) := by decide +kernel
theorem dX0_readCommand_1 : decode cX0_readCommand 1 = .ok (.getfield 21, 3) := by decide +kernel
theorem dX0_readCommand_4 : decode cX0_readCommand 4 = .ok (.aload_n 1, 1) := by decide +kernel
theorem dX0_readCommand_5 : decode cX0_readCommand 5 = .ok (.invokevirtual 79, 3) := by decide +kernel
theorem dX0_readCommand_8 : decode cX0_readCommand 8 = .ok (.istore_n 3, 1) := by decide +kernel
theorem dX0_readCommand_9 : decode cX0_readCommand 9 = .ok (.iload_n 3, 1) := by decide +kernel
theorem dX0_readCommand_10 : decode cX0_readCommand 10 = .ok (.iconst 4, 1) := by decide +kernel
theorem dX0_readCommand_11 : decode cX0_readCommand 11 = .ok (.idiv, 1) := by decide +kernel
theorem dX0_readCommand_12 : decode cX0_readCommand 12 = .ok (.istore 4, 2) := by decide +kernel
theorem dX0_readCommand_14 : decode cX0_readCommand 14 = .ok (.iload_n 3, 1) := by decide +kernel
theorem dX0_readCommand_15 : decode cX0_readCommand 15 = .ok (.iconst 4, 1) := by decide +kernel
theorem dX0_readCommand_16 : decode cX0_readCommand 16 = .ok (.irem, 1) := by decide +kernel
theorem dX0_readCommand_17 : decode cX0_readCommand 17 = .ok (.istore 5, 2) := by decide +kernel
theorem dX0_readCommand_19 : decode cX0_readCommand 19 = .ok (.getstatic 83, 3) := by decide +kernel
theorem dX0_readCommand_22 : decode cX0_readCommand 22 = .ok (.iload 4, 2) := by decide +kernel
theorem dX0_readCommand_24 : decode cX0_readCommand 24 = .ok (.iaload, 1) := by decide +kernel
theorem dX0_readCommand_25 : decode cX0_readCommand 25 = .ok (.aload_n 1, 1) := by decide +kernel
theorem dX0_readCommand_26 : decode cX0_readCommand 26 = .ok (.iload 4, 2) := by decide +kernel
theorem dX0_readCommand_28 : decode cX0_readCommand 28 = .ok (.invokevirtual 28, 3) := by decide +kernel
theorem dX0_readCommand_31 : decode cX0_readCommand 31 = .ok (.iadd, 1) := by decide +kernel
theorem dX0_readCommand_32 : decode cX0_readCommand 32 = .ok (.istore 6, 2) := by decide +kernel
theorem dX0_readCommand_34 : decode cX0_readCommand 34 = .ok (.getstatic 86, 3) := by decide +kernel
theorem dX0_readCommand_37 : decode cX0_readCommand 37 = .ok (.iload 5, 2) := by decide +kernel
theorem dX0_readCommand_39 : decode cX0_readCommand 39 = .ok (.iaload, 1) := by decide +kernel
theorem dX0_readCommand_40 : decode cX0_readCommand 40 = .ok (.aload_n 1, 1) := by decide +kernel
theorem dX0_readCommand_41 : decode cX0_readCommand 41 = .ok (.iload 5, 2) := by decide +kernel
theorem dX0_readCommand_43 : decode cX0_readCommand 43 = .ok (.invokevirtual 28, 3) := by decide +kernel
theorem dX0_readCommand_46 : decode cX0_readCommand 46 = .ok (.iadd, 1) := by decide +kernel
theorem dX0_readCommand_47 : decode cX0_readCommand 47 = .ok (.istore 7, 2) := by decide +kernel
theorem dX0_readCommand_49 : decode cX0_readCommand 49 = .ok (.aload_n 0, 1) := by decide +kernel
theorem dX0_readCommand_50 : decode cX0_readCommand 50 = .ok (.aload_n 2, 1) := by decide +kernel
theorem dX0_readCommand_51 : decode cX0_readCommand 51 = .ok (.iload 6, 2) := by decide +kernel
theorem dX0_readCommand_53 : decode cX0_readCommand 53 = .ok (.invokevirtual 89, 3) := by decide +kernel
theorem dX0_readCommand_56 : decode cX0_readCommand 56 = .ok (.iconst 0, 1) := by decide +kernel
theorem dX0_readCommand_57 : decode cX0_readCommand 57 = .ok (.istore 8, 2) := by decide +kernel
theorem dX0_readCommand_59 : decode cX0_readCommand 59 = .ok (.iload 8, 2) := by decide +kernel
theorem dX0_readCommand_61 : decode cX0_readCommand 61 = .ok (.iload 6, 2) := by decide +kernel
theorem dX0_readCommand_63 : decode cX0_readCommand 63 = .ok (.if_icmp .ge 64, 3) := by decide +kernel
theorem dX0_readCommand_66 : decode cX0_readCommand 66 = .ok (.aload_n 0, 1) := by decide +kernel
theorem dX0_readCommand_67 : decode cX0_readCommand 67 = .ok (.getfield 12, 3) := by decide +kernel
theorem dX0_readCommand_70 : decode cX0_readCommand 70 = .ok (.invokevirtual 93, 3) := by decide +kernel
theorem dX0_readCommand_73 : decode cX0_readCommand 73 = .ok (.ifCond .eq 21, 3) := by decide +kernel
theorem dX0_readCommand_76 : decode cX0_readCommand 76 = .ok (.aload_n 0, 1) := by decide +kernel
theorem dX0_readCommand_77 : decode cX0_readCommand 77 = .ok (.getfield 12, 3) := by decide +kernel
theorem dX0_readCommand_80 : decode cX0_readCommand 80 = .ok (.aload_n 1, 1) := by decide +kernel
theorem dX0_readCommand_81 : decode cX0_readCommand 81 = .ok (.invokevirtual 97, 3) := by decide +kernel
theorem dX0_readCommand_84 : decode cX0_readCommand 84 = .ok (.aload_n 2, 1) := by decide +kernel
theorem dX0_readCommand_85 : decode cX0_readCommand 85 = .ok (.getfield 34, 3) := by decide +kernel
theorem dX0_readCommand_88 : decode cX0_readCommand 88 = .ok (.iconst 4, 1) := by decide +kernel
theorem dX0_readCommand_89 : decode cX0_readCommand 89 = .ok (.dup2, 1) := by decide +kernel
theorem dX0_readCommand_90 : decode cX0_readCommand 90 = .ok (.iaload, 1) := by decide +kernel
theorem dX0_readCommand_91 : decode cX0_readCommand 91 = .ok (.iconst 1, 1) := by decide +kernel
theorem dX0_readCommand_92 : decode cX0_readCommand 92 = .ok (.iadd, 1) := by decide +kernel
theorem dX0_readCommand_93 : decode cX0_readCommand 93 = .ok (.iastore, 1) := by decide +kernel
theorem dX0_readCommand_94 : decode cX0_readCommand 94 = .ok (.aload_n 0, 1) := by decide +kernel
theorem dX0_readCommand_95 : decode cX0_readCommand 95 = .ok (.getfield 12, 3) := by decide +kernel
theorem dX0_readCommand_98 : decode cX0_readCommand 98 = .ok (.aload_n 1, 1) := by decide +kernel
theorem dX0_readCommand_99 : decode cX0_readCommand 99 = .ok (.aload_n 2, 1) := by decide +kernel
theorem dX0_readCommand_100 : decode cX0_readCommand 100 = .ok (.iconst 1, 1) := by decide +kernel
theorem dX0_readCommand_101 : decode cX0_readCommand 101 = .ok (.invokevirtual 100, 3) := by decide +kernel
theorem dX0_readCommand_104 : decode cX0_readCommand 104 = .ok (.aload_n 2, 1) := by decide +kernel
theorem dX0_readCommand_105 : decode cX0_readCommand 105 = .ok (.iconst 2, 1) := by decide +kernel
theorem dX0_readCommand_106 : decode cX0_readCommand 106 = .ok (.invokevirtual 100, 3) := by decide +kernel
theorem dX0_readCommand_109 : decode cX0_readCommand 109 = .ok (.invokevirtual 103, 3) := by decide +kernel
theorem dX0_readCommand_112 : decode cX0_readCommand 112 = .ok (.istore 9, 2) := by decide +kernel
theorem dX0_readCommand_114 : decode cX0_readCommand 114 = .ok (.aload_n 2, 1) := by decide +kernel
theorem dX0_readCommand_115 : decode cX0_readCommand 115 = .ok (.iload 9, 2) := by decide +kernel
theorem dX0_readCommand_117 : decode cX0_readCommand 117 = .ok (.iconst 1, 1) := by decide +kernel
theorem dX0_readCommand_118 : decode cX0_readCommand 118 = .ok (.invokevirtual 61, 3) := by decide +kernel
theorem dX0_readCommand_121 : decode cX0_readCommand 121 = .ok (.iinc 8 1, 3) := by decide +kernel
theorem dX0_readCommand_124 : decode cX0_readCommand 124 = .ok (.goto (-65), 3) := by decide +kernel
theorem dX0_readCommand_127 : decode cX0_readCommand 127 = .ok (.aload_n 2, 1) := by decide +kernel
theorem dX0_readCommand_128 : decode cX0_readCommand 128 = .ok (.getfield 40, 3) := by decide +kernel
theorem dX0_readCommand_131 : decode cX0_readCommand 131 = .ok (.aload_n 0, 1) := by decide +kernel
theorem dX0_readCommand_132 : decode cX0_readCommand 132 = .ok (.getfield 44, 3) := by decide +kernel
theorem dX0_readCommand_135 : decode cX0_readCommand 135 = .ok (.if_icmp .ge 11, 3) := by decide +kernel
theorem dX0_readCommand_138 : decode cX0_readCommand 138 = .ok (.aload_n 0, 1) := by decide +kernel
theorem dX0_readCommand_139 : decode cX0_readCommand 139 = .ok (.aload_n 1, 1) := by decide +kernel
theorem dX0_readCommand_140 : decode cX0_readCommand 140 = .ok (.aload_n 2, 1) := by decide +kernel
theorem dX0_readCommand_141 : decode cX0_readCommand 141 = .ok (.iload 7, 2) := by decide +kernel
theorem dX0_readCommand_143 : decode cX0_readCommand 143 = .ok (.invokevirtual 107, 3) := by decide +kernel
theorem dX0_readCommand_146 : decode cX0_readCommand 146 = .ok (.return_, 1) := by decide +kernel
theorem dX0_readPiece_0 : decode cX0_readPiece 0 = .ok (.aload_n 0, 1) := by decide +kernel
theorem dX0_readPiece_1 : decode cX0_readPiece 1 = .ok (.getfield 25, 3) := by decide +kernel
theorem dX0_readPiece_4 : decode cX0_readPiece 4 = .ok (.aload_n 1, 1) := by decide +kernel
theorem dX0_readPiece_5 : decode cX0_readPiece 5 = .ok (.invokevirtual 79, 3) := by decide +kernel
theorem dX0_readPiece_8 : decode cX0_readPiece 8 = .ok (.istore 4, 2) := by decide +kernel
theorem dX0_readPiece_10 : decode cX0_readPiece 10 = .ok (.iload 4, 2) := by decide +kernel
theorem dX0_readPiece_12 : decode cX0_readPiece 12 = .ok (.iconst 4, 1) := by decide +kernel
theorem dX0_readPiece_13 : decode cX0_readPiece 13 = .ok (.if_icmp .ge 15, 3) := by decide +kernel
theorem dX0_readPiece_16 : decode cX0_readPiece 16 = .ok (.aload_n 2, 1) := by decide +kernel
theorem dX0_readPiece_17 : decode cX0_readPiece 17 = .ok (.getfield 34, 3) := by decide +kernel
theorem dX0_readPiece_20 : decode cX0_readPiece 20 = .ok (.iconst 5, 1) := by decide +kernel
theorem dX0_readPiece_21 : decode cX0_readPiece 21 = .ok (.iload 4, 2) := by decide +kernel
theorem dX0_readPiece_23 : decode cX0_readPiece 23 = .ok (.iadd, 1) := by decide +kernel
theorem dX0_readPiece_24 : decode cX0_readPiece 24 = .ok (.iaload, 1) := by decide +kernel
theorem dX0_readPiece_25 : decode cX0_readPiece 25 = .ok (.goto 11, 3) := by decide +kernel
theorem dX0_readPiece_28 : decode cX0_readPiece 28 = .ok (.aload_n 1, 1) := by decide +kernel
theorem dX0_readPiece_29 : decode cX0_readPiece 29 = .ok (.iload 4, 2) := by decide +kernel
theorem dX0_readPiece_31 : decode cX0_readPiece 31 = .ok (.iconst 4, 1) := by decide +kernel
theorem dX0_readPiece_32 : decode cX0_readPiece 32 = .ok (.isub, 1) := by decide +kernel
theorem dX0_readPiece_33 : decode cX0_readPiece 33 = .ok (.invokestatic 111, 3) := by decide +kernel
theorem dX0_readPiece_36 : decode cX0_readPiece 36 = .ok (.istore 5, 2) := by decide +kernel
theorem dX0_readPiece_38 : decode cX0_readPiece 38 = .ok (.iload 5, 2) := by decide +kernel
theorem dX0_readPiece_40 : decode cX0_readPiece 40 = .ok (.aload_n 2, 1) := by decide +kernel
theorem dX0_readPiece_41 : decode cX0_readPiece 41 = .ok (.getfield 40, 3) := by decide +kernel
theorem dX0_readPiece_44 : decode cX0_readPiece 44 = .ok (.if_icmp .le 19, 3) := by decide +kernel
theorem dX0_readPiece_47 : decode cX0_readPiece 47 = .ok (.aload_n 0, 1) := by decide +kernel
theorem dX0_readPiece_48 : decode cX0_readPiece 48 = .ok (.aload_n 2, 1) := by decide +kernel
theorem dX0_readPiece_49 : decode cX0_readPiece 49 = .ok (.iload 5, 2) := by decide +kernel
theorem dX0_readPiece_51 : decode cX0_readPiece 51 = .ok (.aload_n 2, 1) := by decide +kernel
theorem dX0_readPiece_52 : decode cX0_readPiece 52 = .ok (.getfield 40, 3) := by decide +kernel
theorem dX0_readPiece_55 : decode cX0_readPiece 55 = .ok (.isub, 1) := by decide +kernel
theorem dX0_readPiece_56 : decode cX0_readPiece 56 = .ok (.iconst 1, 1) := by decide +kernel
theorem dX0_readPiece_57 : decode cX0_readPiece 57 = .ok (.isub, 1) := by decide +kernel
theorem dX0_readPiece_58 : decode cX0_readPiece 58 = .ok (.iload_n 3, 1) := by decide +kernel
theorem dX0_readPiece_59 : decode cX0_readPiece 59 = .ok (.invokevirtual 115, 3) := by decide +kernel
theorem dX0_readPiece_62 : decode cX0_readPiece 62 = .ok (.return_, 1) := by decide +kernel
theorem dX0_readPiece_63 : decode cX0_readPiece 63 = .ok (.aload_n 0, 1) := by decide +kernel
theorem dX0_readPiece_64 : decode cX0_readPiece 64 = .ok (.aload_n 2, 1) := by decide +kernel
theorem dX0_readPiece_65 : decode cX0_readPiece 65 = .ok (.iload_n 3, 1) := by decide +kernel
theorem dX0_readPiece_66 : decode cX0_readPiece 66 = .ok (.invokevirtual 89, 3) := by decide +kernel
theorem dX0_readPiece_69 : decode cX0_readPiece 69 = .ok (.iconst 0, 1) := by decide +kernel
theorem dX0_readPiece_70 : decode cX0_readPiece 70 = .ok (.istore 6, 2) := by decide +kernel
theorem dX0_readPiece_72 : decode cX0_readPiece 72 = .ok (.iload 6, 2) := by decide +kernel
theorem dX0_readPiece_74 : decode cX0_readPiece 74 = .ok (.iload_n 3, 1) := by decide +kernel
theorem dX0_readPiece_75 : decode cX0_readPiece 75 = .ok (.if_icmp .ge 20, 3) := by decide +kernel
theorem dX0_readPiece_78 : decode cX0_readPiece 78 = .ok (.aload_n 2, 1) := by decide +kernel
theorem dX0_readPiece_79 : decode cX0_readPiece 79 = .ok (.aload_n 2, 1) := by decide +kernel
theorem dX0_readPiece_80 : decode cX0_readPiece 80 = .ok (.iload 5, 2) := by decide +kernel
theorem dX0_readPiece_82 : decode cX0_readPiece 82 = .ok (.invokevirtual 100, 3) := by decide +kernel
theorem dX0_readPiece_85 : decode cX0_readPiece 85 = .ok (.iconst 2, 1) := by decide +kernel
theorem dX0_readPiece_86 : decode cX0_readPiece 86 = .ok (.invokevirtual 61, 3) := by decide +kernel
theorem dX0_readPiece_89 : decode cX0_readPiece 89 = .ok (.iinc 6 1, 3) := by decide +kernel
theorem dX0_readPiece_92 : decode cX0_readPiece 92 = .ok (.goto (-20), 3) := by decide +kernel
theorem dX0_readPiece_95 : decode cX0_readPiece 95 = .ok (.iload 4, 2) := by decide +kernel
theorem dX0_readPiece_97 : decode cX0_readPiece 97 = .ok (.ifCond .eq 9, 3) := by decide +kernel
theorem dX0_readPiece_100 : decode cX0_readPiece 100 = .ok (.aload_n 2, 1) := by decide +kernel
theorem dX0_readPiece_101 : decode cX0_readPiece 101 = .ok (.iload 5, 2) := by decide +kernel
theorem dX0_readPiece_103 : decode cX0_readPiece 103 = .ok (.invokevirtual 119, 3) := by decide +kernel
theorem dX0_readPiece_106 : decode cX0_readPiece 106 = .ok (.return_, 1) := by decide +kernel
theorem dX0_readDistance_0 : decode cX0_readDistance 0 = .ok (.iconst 1, 1) := by decide +kernel
theorem dX0_readDistance_1 : decode cX0_readDistance 1 = .ok (.iload_n 1, 1) := by decide +kernel
theorem dX0_readDistance_2 : decode cX0_readDistance 2 = .ok (.iconst 2, 1) := by decide +kernel
theorem dX0_readDistance_3 : decode cX0_readDistance 3 = .ok (.idiv, 1) := by decide +kernel
theorem dX0_readDistance_4 : decode cX0_readDistance 4 = .ok (.iadd, 1) := by decide +kernel
theorem dX0_readDistance_5 : decode cX0_readDistance 5 = .ok (.istore_n 2, 1) := by decide +kernel
theorem dX0_readDistance_6 : decode cX0_readDistance 6 = .ok (.iconst 2, 1) := by decide +kernel
theorem dX0_readDistance_7 : decode cX0_readDistance 7 = .ok (.iload_n 1, 1) := by decide +kernel
theorem dX0_readDistance_8 : decode cX0_readDistance 8 = .ok (.iconst 2, 1) := by decide +kernel
theorem dX0_readDistance_9 : decode cX0_readDistance 9 = .ok (.irem, 1) := by decide +kernel
theorem dX0_readDistance_10 : decode cX0_readDistance 10 = .ok (.iadd, 1) := by decide +kernel
theorem dX0_readDistance_11 : decode cX0_readDistance 11 = .ok (.iload_n 2, 1) := by decide +kernel
theorem dX0_readDistance_12 : decode cX0_readDistance 12 = .ok (.ishl, 1) := by decide +kernel
theorem dX0_readDistance_13 : decode cX0_readDistance 13 = .ok (.iconst 3, 1) := by decide +kernel
theorem dX0_readDistance_14 : decode cX0_readDistance 14 = .ok (.isub, 1) := by decide +kernel
theorem dX0_readDistance_15 : decode cX0_readDistance 15 = .ok (.aload_n 0, 1) := by decide +kernel
theorem dX0_readDistance_16 : decode cX0_readDistance 16 = .ok (.iload_n 2, 1) := by decide +kernel
theorem dX0_readDistance_17 : decode cX0_readDistance 17 = .ok (.invokevirtual 28, 3) := by decide +kernel
theorem dX0_readDistance_20 : decode cX0_readDistance 20 = .ok (.iadd, 1) := by decide +kernel
theorem dX0_readDistance_21 : decode cX0_readDistance 21 = .ok (.ireturn, 1) := by decide +kernel
theorem dX0_addWord_0 : decode cX0_addWord 0 = .ok (.iload_n 2, 1) := by decide +kernel
theorem dX0_addWord_1 : decode cX0_addWord 1 = .ok (.bipush 8, 2) := by decide +kernel
theorem dX0_addWord_3 : decode cX0_addWord 3 = .ok (.irem, 1) := by decide +kernel
theorem dX0_addWord_4 : decode cX0_addWord 4 = .ok (.istore 4, 2) := by decide +kernel
theorem dX0_addWord_6 : decode cX0_addWord 6 = .ok (.iload_n 2, 1) := by decide +kernel
theorem dX0_addWord_7 : decode cX0_addWord 7 = .ok (.bipush 8, 2) := by decide +kernel
theorem dX0_addWord_9 : decode cX0_addWord 9 = .ok (.idiv, 1) := by decide +kernel
theorem dX0_addWord_10 : decode cX0_addWord 10 = .ok (.istore 5, 2) := by decide +kernel
theorem dX0_addWord_12 : decode cX0_addWord 12 = .ok (.iload_n 3, 1) := by decide +kernel
theorem dX0_addWord_13 : decode cX0_addWord 13 = .ok (.iconst 3, 1) := by decide +kernel
theorem dX0_addWord_14 : decode cX0_addWord 14 = .ok (.if_icmp .lt 15, 3) := by decide +kernel
theorem dX0_addWord_17 : decode cX0_addWord 17 = .ok (.iload_n 3, 1) := by decide +kernel
theorem dX0_addWord_18 : decode cX0_addWord 18 = .ok (.bipush 6, 2) := by decide +kernel
theorem dX0_addWord_20 : decode cX0_addWord 20 = .ok (.if_icmp .gt 9, 3) := by decide +kernel
theorem dX0_addWord_23 : decode cX0_addWord 23 = .ok (.iload 5, 2) := by decide +kernel
theorem dX0_addWord_25 : decode cX0_addWord 25 = .ok (.iconst 4, 1) := by decide +kernel
theorem dX0_addWord_26 : decode cX0_addWord 26 = .ok (.if_icmp .le 13, 3) := by decide +kernel
theorem dX0_addWord_29 : decode cX0_addWord 29 = .ok (.new 47, 3) := by decide +kernel
theorem dX0_addWord_32 : decode cX0_addWord 32 = .ok (.dup, 1) := by decide +kernel
theorem dX0_addWord_33 : decode cX0_addWord 33 = .ok (.ldc 123, 2) := by decide +kernel
theorem dX0_addWord_35 : decode cX0_addWord 35 = .ok (.invokespecial 51, 3) := by decide +kernel
theorem dX0_addWord_38 : decode cX0_addWord 38 = .ok (.athrow, 1) := by decide +kernel
theorem dX0_addWord_39 : decode cX0_addWord 39 = .ok (.iload 5, 2) := by decide +kernel
theorem dX0_addWord_41 : decode cX0_addWord 41 = .ok (.iconst 2, 1) := by decide +kernel
theorem dX0_addWord_42 : decode cX0_addWord 42 = .ok (.if_icmp .ne 7, 3) := by decide +kernel
theorem dX0_addWord_45 : decode cX0_addWord 45 = .ok (.iconst 1, 1) := by decide +kernel
theorem dX0_addWord_46 : decode cX0_addWord 46 = .ok (.goto 4, 3) := by decide +kernel
theorem dX0_addWord_49 : decode cX0_addWord 49 = .ok (.iconst 0, 1) := by decide +kernel
theorem dX0_addWord_50 : decode cX0_addWord 50 = .ok (.istore 6, 2) := by decide +kernel
theorem dX0_addWord_52 : decode cX0_addWord 52 = .ok (.iload 5, 2) := by decide +kernel
theorem dX0_addWord_54 : decode cX0_addWord 54 = .ok (.iconst 3, 1) := by decide +kernel
theorem dX0_addWord_55 : decode cX0_addWord 55 = .ok (.if_icmp .ne 9, 3) := by decide +kernel
theorem dX0_addWord_58 : decode cX0_addWord 58 = .ok (.iload_n 3, 1) := by decide +kernel
theorem dX0_addWord_59 : decode cX0_addWord 59 = .ok (.iconst 1, 1) := by decide +kernel
theorem dX0_addWord_60 : decode cX0_addWord 60 = .ok (.isub, 1) := by decide +kernel
theorem dX0_addWord_61 : decode cX0_addWord 61 = .ok (.goto 4, 3) := by decide +kernel
theorem dX0_addWord_64 : decode cX0_addWord 64 = .ok (.iload_n 3, 1) := by decide +kernel
theorem dX0_addWord_65 : decode cX0_addWord 65 = .ok (.istore 7, 2) := by decide +kernel
theorem dX0_addWord_67 : decode cX0_addWord 67 = .ok (.aload_n 0, 1) := by decide +kernel
theorem dX0_addWord_68 : decode cX0_addWord 68 = .ok (.aload_n 1, 1) := by decide +kernel
theorem dX0_addWord_69 : decode cX0_addWord 69 = .ok (.iload 5, 2) := by decide +kernel
theorem dX0_addWord_71 : decode cX0_addWord 71 = .ok (.iconst 4, 1) := by decide +kernel
theorem dX0_addWord_72 : decode cX0_addWord 72 = .ok (.if_icmp .ne 9, 3) := by decide +kernel
theorem dX0_addWord_75 : decode cX0_addWord 75 = .ok (.iload_n 3, 1) := by decide +kernel
theorem dX0_addWord_76 : decode cX0_addWord 76 = .ok (.iconst 1, 1) := by decide +kernel
theorem dX0_addWord_77 : decode cX0_addWord 77 = .ok (.iadd, 1) := by decide +kernel
theorem dX0_addWord_78 : decode cX0_addWord 78 = .ok (.goto 8, 3) := by decide +kernel
theorem dX0_addWord_81 : decode cX0_addWord 81 = .ok (.iload 7, 2) := by decide +kernel
theorem dX0_addWord_83 : decode cX0_addWord 83 = .ok (.iload 6, 2) := by decide +kernel
theorem dX0_addWord_85 : decode cX0_addWord 85 = .ok (.isub, 1) := by decide +kernel
theorem dX0_addWord_86 : decode cX0_addWord 86 = .ok (.invokevirtual 89, 3) := by decide +kernel
theorem dX0_addWord_89 : decode cX0_addWord 89 = .ok (.iload 6, 2) := by decide +kernel
theorem dX0_addWord_91 : decode cX0_addWord 91 = .ok (.istore 8, 2) := by decide +kernel
theorem dX0_addWord_93 : decode cX0_addWord 93 = .ok (.iload 8, 2) := by decide +kernel
theorem dX0_addWord_95 : decode cX0_addWord 95 = .ok (.iload 7, 2) := by decide +kernel
theorem dX0_addWord_97 : decode cX0_addWord 97 = .ok (.if_icmp .ge 74, 3) := by decide +kernel
theorem dX0_addWord_100 : decode cX0_addWord 100 = .ok (.bipush 7, 2) := by decide +kernel
theorem dX0_addWord_102 : decode cX0_addWord 102 = .ok (.iload 4, 2) := by decide +kernel
theorem dX0_addWord_104 : decode cX0_addWord 104 = .ok (.imul, 1) := by decide +kernel
theorem dX0_addWord_105 : decode cX0_addWord 105 = .ok (.iconst 5, 1) := by decide +kernel
theorem dX0_addWord_106 : decode cX0_addWord 106 = .ok (.iload_n 3, 1) := by decide +kernel
theorem dX0_addWord_107 : decode cX0_addWord 107 = .ok (.imul, 1) := by decide +kernel
theorem dX0_addWord_108 : decode cX0_addWord 108 = .ok (.iadd, 1) := by decide +kernel
theorem dX0_addWord_109 : decode cX0_addWord 109 = .ok (.iconst 3, 1) := by decide +kernel
theorem dX0_addWord_110 : decode cX0_addWord 110 = .ok (.iload 8, 2) := by decide +kernel
theorem dX0_addWord_112 : decode cX0_addWord 112 = .ok (.imul, 1) := by decide +kernel
theorem dX0_addWord_113 : decode cX0_addWord 113 = .ok (.iload 8, 2) := by decide +kernel
theorem dX0_addWord_115 : decode cX0_addWord 115 = .ok (.imul, 1) := by decide +kernel
theorem dX0_addWord_116 : decode cX0_addWord 116 = .ok (.iadd, 1) := by decide +kernel
theorem dX0_addWord_117 : decode cX0_addWord 117 = .ok (.iload 8, 2) := by decide +kernel
theorem dX0_addWord_119 : decode cX0_addWord 119 = .ok (.iload 4, 2) := by decide +kernel
theorem dX0_addWord_121 : decode cX0_addWord 121 = .ok (.imul, 1) := by decide +kernel
theorem dX0_addWord_122 : decode cX0_addWord 122 = .ok (.iadd, 1) := by decide +kernel
theorem dX0_addWord_123 : decode cX0_addWord 123 = .ok (.bipush 32, 2) := by decide +kernel
theorem dX0_addWord_125 : decode cX0_addWord 125 = .ok (.irem, 1) := by decide +kernel
theorem dX0_addWord_126 : decode cX0_addWord 126 = .ok (.istore 9, 2) := by decide +kernel
theorem dX0_addWord_128 : decode cX0_addWord 128 = .ok (.iload 5, 2) := by decide +kernel
theorem dX0_addWord_130 : decode cX0_addWord 130 = .ok (.iconst 1, 1) := by decide +kernel
theorem dX0_addWord_131 : decode cX0_addWord 131 = .ok (.if_icmp .ne 12, 3) := by decide +kernel
theorem dX0_addWord_134 : decode cX0_addWord 134 = .ok (.iload 8, 2) := by decide +kernel
theorem dX0_addWord_136 : decode cX0_addWord 136 = .ok (.ifCond .ne 7, 3) := by decide +kernel
theorem dX0_addWord_139 : decode cX0_addWord 139 = .ok (.iconst 1, 1) := by decide +kernel
theorem dX0_addWord_140 : decode cX0_addWord 140 = .ok (.goto 4, 3) := by decide +kernel
theorem dX0_addWord_143 : decode cX0_addWord 143 = .ok (.iconst 0, 1) := by decide +kernel
theorem dX0_addWord_144 : decode cX0_addWord 144 = .ok (.istore 10, 2) := by decide +kernel
theorem dX0_addWord_146 : decode cX0_addWord 146 = .ok (.aload_n 1, 1) := by decide +kernel
theorem dX0_addWord_147 : decode cX0_addWord 147 = .ok (.iload 10, 2) := by decide +kernel
theorem dX0_addWord_149 : decode cX0_addWord 149 = .ok (.ifCond .eq 10, 3) := by decide +kernel
theorem dX0_addWord_152 : decode cX0_addWord 152 = .ok (.iload 9, 2) := by decide +kernel
theorem dX0_addWord_154 : decode cX0_addWord 154 = .ok (.iconst 1, 1) := by decide +kernel
theorem dX0_addWord_155 : decode cX0_addWord 155 = .ok (.ixor, 1) := by decide +kernel
theorem dX0_addWord_156 : decode cX0_addWord 156 = .ok (.goto 5, 3) := by decide +kernel
theorem dX0_addWord_159 : decode cX0_addWord 159 = .ok (.iload 9, 2) := by decide +kernel
theorem dX0_addWord_161 : decode cX0_addWord 161 = .ok (.iconst 3, 1) := by decide +kernel
theorem dX0_addWord_162 : decode cX0_addWord 162 = .ok (.invokevirtual 61, 3) := by decide +kernel
theorem dX0_addWord_165 : decode cX0_addWord 165 = .ok (.iinc 8 1, 3) := by decide +kernel
theorem dX0_addWord_168 : decode cX0_addWord 168 = .ok (.goto (-75), 3) := by decide +kernel
theorem dX0_addWord_171 : decode cX0_addWord 171 = .ok (.iload 5, 2) := by decide +kernel
theorem dX0_addWord_173 : decode cX0_addWord 173 = .ok (.iconst 4, 1) := by decide +kernel
theorem dX0_addWord_174 : decode cX0_addWord 174 = .ok (.if_icmp .ne 9, 3) := by decide +kernel
theorem dX0_addWord_177 : decode cX0_addWord 177 = .ok (.aload_n 1, 1) := by decide +kernel
theorem dX0_addWord_178 : decode cX0_addWord 178 = .ok (.iconst 0, 1) := by decide +kernel
theorem dX0_addWord_179 : decode cX0_addWord 179 = .ok (.iconst 3, 1) := by decide +kernel
theorem dX0_addWord_180 : decode cX0_addWord 180 = .ok (.invokevirtual 61, 3) := by decide +kernel
theorem dX0_addWord_183 : decode cX0_addWord 183 = .ok (.return_, 1) := by decide +kernel
theorem dX0_refuseBeyondEnd_0 : decode cX0_refuseBeyondEnd 0 = .ok (.iload_n 2, 1) := by decide +kernel
theorem dX0_refuseBeyondEnd_1 : decode cX0_refuseBeyondEnd 1 = .ok (.aload_n 0, 1) := by decide +kernel
theorem dX0_refuseBeyondEnd_2 : decode cX0_refuseBeyondEnd 2 = .ok (.getfield 44, 3) := by decide +kernel
theorem dX0_refuseBeyondEnd_5 : decode cX0_refuseBeyondEnd 5 = .ok (.aload_n 1, 1) := by decide +kernel
theorem dX0_refuseBeyondEnd_6 : decode cX0_refuseBeyondEnd 6 = .ok (.getfield 40, 3) := by decide +kernel
theorem dX0_refuseBeyondEnd_9 : decode cX0_refuseBeyondEnd 9 = .ok (.isub, 1) := by decide +kernel
theorem dX0_refuseBeyondEnd_10 : decode cX0_refuseBeyondEnd 10 = .ok (.if_icmp .le 13, 3) := by decide +kernel
theorem dX0_refuseBeyondEnd_13 : decode cX0_refuseBeyondEnd 13 = .ok (.new 47, 3) := by decide +kernel
theorem dX0_refuseBeyondEnd_16 : decode cX0_refuseBeyondEnd 16 = .ok (.dup, 1) := by decide +kernel
theorem dX0_refuseBeyondEnd_17 : decode cX0_refuseBeyondEnd 17 = .ok (.ldc 125, 2) := by decide +kernel
theorem dX0_refuseBeyondEnd_19 : decode cX0_refuseBeyondEnd 19 = .ok (.invokespecial 51, 3) := by decide +kernel
theorem dX0_refuseBeyondEnd_22 : decode cX0_refuseBeyondEnd 22 = .ok (.athrow, 1) := by decide +kernel
theorem dX0_refuseBeyondEnd_23 : decode cX0_refuseBeyondEnd 23 = .ok (.return_, 1) := by decide +kernel
theorem dX1_init_0 : decode cX1_init 0 = .ok (.aload_n 0, 1) := by decide +kernel
theorem dX1_init_1 : decode cX1_init 1 = .ok (.invokespecial 1, 3) := by decide +kernel
theorem dX1_init_4 : decode cX1_init 4 = .ok (.aload_n 0, 1) := by decide +kernel
theorem dX1_init_5 : decode cX1_init 5 = .ok (.bipush 32, 2) := by decide +kernel
theorem dX1_init_7 : decode cX1_init 7 = .ok (.newarray .int, 2) := by decide +kernel
theorem dX1_init_9 : decode cX1_init 9 = .ok (.putfield 9, 3) := by decide +kernel
theorem dX1_init_12 : decode cX1_init 12 = .ok (.aload_n 0, 1) := by decide +kernel
theorem dX1_init_13 : decode cX1_init 13 = .ok (.bipush 32, 2) := by decide +kernel
theorem dX1_init_15 : decode cX1_init 15 = .ok (.newarray .int, 2) := by decide +kernel
theorem dX1_init_17 : decode cX1_init 17 = .ok (.putfield 13, 3) := by decide +kernel
theorem dX1_init_20 : decode cX1_init 20 = .ok (.aload_n 0, 1) := by decide +kernel
theorem dX1_init_21 : decode cX1_init 21 = .ok (.bipush 8, 2) := by decide +kernel
theorem dX1_init_23 : decode cX1_init 23 = .ok (.newarray .int, 2) := by decide +kernel
theorem dX1_init_25 : decode cX1_init 25 = .ok (.putfield 16, 3) := by decide +kernel
theorem dX1_init_28 : decode cX1_init 28 = .ok (.return_, 1) := by decide +kernel
theorem dX1_readCode_0 : decode cX1_readCode 0 = .ok (.aload_n 0, 1) := by decide +kernel
theorem dX1_readCode_1 : decode cX1_readCode 1 = .ok (.getfield 9, 3) := by decide +kernel
theorem dX1_readCode_4 : decode cX1_readCode 4 = .ok (.iconst (-1), 1) := by decide +kernel
theorem dX1_readCode_5 : decode cX1_readCode 5 = .ok (.invokestatic 19, 3) := by decide +kernel
theorem dX1_readCode_8 : decode cX1_readCode 8 = .ok (.aload_n 1, 1) := by decide +kernel
theorem dX1_readCode_9 : decode cX1_readCode 9 = .ok (.iconst 1, 1) := by decide +kernel
theorem dX1_readCode_10 : decode cX1_readCode 10 = .ok (.invokevirtual 25, 3) := by decide +kernel
theorem dX1_readCode_13 : decode cX1_readCode 13 = .ok (.iconst 1, 1) := by decide +kernel
theorem dX1_readCode_14 : decode cX1_readCode 14 = .ok (.if_icmp .ne 12, 3) := by decide +kernel
theorem dX1_readCode_17 : decode cX1_readCode 17 = .ok (.aload_n 0, 1) := by decide +kernel
theorem dX1_readCode_18 : decode cX1_readCode 18 = .ok (.aload_n 1, 1) := by decide +kernel
theorem dX1_readCode_19 : decode cX1_readCode 19 = .ok (.iload_n 2, 1) := by decide +kernel
theorem dX1_readCode_20 : decode cX1_readCode 20 = .ok (.invokevirtual 31, 3) := by decide +kernel
theorem dX1_readCode_23 : decode cX1_readCode 23 = .ok (.goto 9, 3) := by decide +kernel
theorem dX1_readCode_26 : decode cX1_readCode 26 = .ok (.aload_n 0, 1) := by decide +kernel
theorem dX1_readCode_27 : decode cX1_readCode 27 = .ok (.aload_n 1, 1) := by decide +kernel
theorem dX1_readCode_28 : decode cX1_readCode 28 = .ok (.iload_n 2, 1) := by decide +kernel
theorem dX1_readCode_29 : decode cX1_readCode 29 = .ok (.invokevirtual 35, 3) := by decide +kernel
theorem dX1_readCode_32 : decode cX1_readCode 32 = .ok (.aload_n 0, 1) := by decide +kernel
theorem dX1_readCode_33 : decode cX1_readCode 33 = .ok (.iload_n 2, 1) := by decide +kernel
theorem dX1_readCode_34 : decode cX1_readCode 34 = .ok (.invokevirtual 38, 3) := by decide +kernel
theorem dX1_readCode_37 : decode cX1_readCode 37 = .ok (.return_, 1) := by decide +kernel
theorem dX1_readSymbol_0 : decode cX1_readSymbol 0 = .ok (.aload_n 0, 1) := by decide +kernel
theorem dX1_readSymbol_1 : decode cX1_readSymbol 1 = .ok (.getfield 16, 3) := by decide +kernel
theorem dX1_readSymbol_4 : decode cX1_readSymbol 4 = .ok (.iconst 0, 1) := by decide +kernel
theorem dX1_readSymbol_5 : decode cX1_readSymbol 5 = .ok (.iaload, 1) := by decide +kernel
theorem dX1_readSymbol_6 : decode cX1_readSymbol 6 = .ok (.iconst 1, 1) := by decide +kernel
theorem dX1_readSymbol_7 : decode cX1_readSymbol 7 = .ok (.if_icmp .ne 10, 3) := by decide +kernel
theorem dX1_readSymbol_10 : decode cX1_readSymbol 10 = .ok (.aload_n 0, 1) := by decide +kernel
theorem dX1_readSymbol_11 : decode cX1_readSymbol 11 = .ok (.getfield 13, 3) := by decide +kernel
theorem dX1_readSymbol_14 : decode cX1_readSymbol 14 = .ok (.iconst 0, 1) := by decide +kernel
theorem dX1_readSymbol_15 : decode cX1_readSymbol 15 = .ok (.iaload, 1) := by decide +kernel
theorem dX1_readSymbol_16 : decode cX1_readSymbol 16 = .ok (.ireturn, 1) := by decide +kernel
theorem dX1_readSymbol_17 : decode cX1_readSymbol 17 = .ok (.iconst 0, 1) := by decide +kernel
theorem dX1_readSymbol_18 : decode cX1_readSymbol 18 = .ok (.istore_n 2, 1) := by decide +kernel
theorem dX1_readSymbol_19 : decode cX1_readSymbol 19 = .ok (.iconst 0, 1) := by decide +kernel
theorem dX1_readSymbol_20 : decode cX1_readSymbol 20 = .ok (.istore_n 3, 1) := by decide +kernel
theorem dX1_readSymbol_21 : decode cX1_readSymbol 21 = .ok (.iconst 0, 1) := by decide +kernel
theorem dX1_readSymbol_22 : decode cX1_readSymbol 22 = .ok (.istore 4, 2) := by decide +kernel
theorem dX1_readSymbol_24 : decode cX1_readSymbol 24 = .ok (.iconst 1, 1) := by decide +kernel
theorem dX1_readSymbol_25 : decode cX1_readSymbol 25 = .ok (.istore 5, 2) := by decide +kernel
theorem dX1_readSymbol_27 : decode cX1_readSymbol 27 = .ok (.iload 5, 2) := by decide +kernel
theorem dX1_readSymbol_29 : decode cX1_readSymbol 29 = .ok (.bipush 7, 2) := by decide +kernel
theorem dX1_readSymbol_31 : decode cX1_readSymbol 31 = .ok (.if_icmp .gt 70, 3) := by decide +kernel
theorem dX1_readSymbol_34 : decode cX1_readSymbol 34 = .ok (.iconst 2, 1) := by decide +kernel
theorem dX1_readSymbol_35 : decode cX1_readSymbol 35 = .ok (.iload_n 2, 1) := by decide +kernel
theorem dX1_readSymbol_36 : decode cX1_readSymbol 36 = .ok (.imul, 1) := by decide +kernel
theorem dX1_readSymbol_37 : decode cX1_readSymbol 37 = .ok (.aload_n 1, 1) := by decide +kernel
theorem dX1_readSymbol_38 : decode cX1_readSymbol 38 = .ok (.iconst 1, 1) := by decide +kernel
theorem dX1_readSymbol_39 : decode cX1_readSymbol 39 = .ok (.invokevirtual 25, 3) := by decide +kernel
theorem dX1_readSymbol_42 : decode cX1_readSymbol 42 = .ok (.iadd, 1) := by decide +kernel
theorem dX1_readSymbol_43 : decode cX1_readSymbol 43 = .ok (.istore_n 2, 1) := by decide +kernel
theorem dX1_readSymbol_44 : decode cX1_readSymbol 44 = .ok (.iconst 2, 1) := by decide +kernel
theorem dX1_readSymbol_45 : decode cX1_readSymbol 45 = .ok (.iload_n 3, 1) := by decide +kernel
theorem dX1_readSymbol_46 : decode cX1_readSymbol 46 = .ok (.imul, 1) := by decide +kernel
theorem dX1_readSymbol_47 : decode cX1_readSymbol 47 = .ok (.istore_n 3, 1) := by decide +kernel
theorem dX1_readSymbol_48 : decode cX1_readSymbol 48 = .ok (.iload_n 2, 1) := by decide +kernel
theorem dX1_readSymbol_49 : decode cX1_readSymbol 49 = .ok (.iload_n 3, 1) := by decide +kernel
theorem dX1_readSymbol_50 : decode cX1_readSymbol 50 = .ok (.isub, 1) := by decide +kernel
theorem dX1_readSymbol_51 : decode cX1_readSymbol 51 = .ok (.aload_n 0, 1) := by decide +kernel
theorem dX1_readSymbol_52 : decode cX1_readSymbol 52 = .ok (.getfield 16, 3) := by decide +kernel
theorem dX1_readSymbol_55 : decode cX1_readSymbol 55 = .ok (.iload 5, 2) := by decide +kernel
theorem dX1_readSymbol_57 : decode cX1_readSymbol 57 = .ok (.iaload, 1) := by decide +kernel
theorem dX1_readSymbol_58 : decode cX1_readSymbol 58 = .ok (.if_icmp .ge 15, 3) := by decide +kernel
theorem dX1_readSymbol_61 : decode cX1_readSymbol 61 = .ok (.aload_n 0, 1) := by decide +kernel
theorem dX1_readSymbol_62 : decode cX1_readSymbol 62 = .ok (.getfield 13, 3) := by decide +kernel
theorem dX1_readSymbol_65 : decode cX1_readSymbol 65 = .ok (.iload 4, 2) := by decide +kernel
theorem dX1_readSymbol_67 : decode cX1_readSymbol 67 = .ok (.iload_n 2, 1) := by decide +kernel
theorem dX1_readSymbol_68 : decode cX1_readSymbol 68 = .ok (.iadd, 1) := by decide +kernel
theorem dX1_readSymbol_69 : decode cX1_readSymbol 69 = .ok (.iload_n 3, 1) := by decide +kernel
theorem dX1_readSymbol_70 : decode cX1_readSymbol 70 = .ok (.isub, 1) := by decide +kernel
theorem dX1_readSymbol_71 : decode cX1_readSymbol 71 = .ok (.iaload, 1) := by decide +kernel
theorem dX1_readSymbol_72 : decode cX1_readSymbol 72 = .ok (.ireturn, 1) := by decide +kernel
theorem dX1_readSymbol_73 : decode cX1_readSymbol 73 = .ok (.iload_n 3, 1) := by decide +kernel
theorem dX1_readSymbol_74 : decode cX1_readSymbol 74 = .ok (.aload_n 0, 1) := by decide +kernel
theorem dX1_readSymbol_75 : decode cX1_readSymbol 75 = .ok (.getfield 16, 3) := by decide +kernel
theorem dX1_readSymbol_78 : decode cX1_readSymbol 78 = .ok (.iload 5, 2) := by decide +kernel
theorem dX1_readSymbol_80 : decode cX1_readSymbol 80 = .ok (.iaload, 1) := by decide +kernel
theorem dX1_readSymbol_81 : decode cX1_readSymbol 81 = .ok (.iadd, 1) := by decide +kernel
theorem dX1_readSymbol_82 : decode cX1_readSymbol 82 = .ok (.istore_n 3, 1) := by decide +kernel
theorem dX1_readSymbol_83 : decode cX1_readSymbol 83 = .ok (.iload 4, 2) := by decide +kernel
theorem dX1_readSymbol_85 : decode cX1_readSymbol 85 = .ok (.aload_n 0, 1) := by decide +kernel
theorem dX1_readSymbol_86 : decode cX1_readSymbol 86 = .ok (.getfield 16, 3) := by decide +kernel
theorem dX1_readSymbol_89 : decode cX1_readSymbol 89 = .ok (.iload 5, 2) := by decide +kernel
theorem dX1_readSymbol_91 : decode cX1_readSymbol 91 = .ok (.iaload, 1) := by decide +kernel
theorem dX1_readSymbol_92 : decode cX1_readSymbol 92 = .ok (.iadd, 1) := by decide +kernel
theorem dX1_readSymbol_93 : decode cX1_readSymbol 93 = .ok (.istore 4, 2) := by decide +kernel
theorem dX1_readSymbol_95 : decode cX1_readSymbol 95 = .ok (.iinc 5 1, 3) := by decide +kernel
theorem dX1_readSymbol_98 : decode cX1_readSymbol 98 = .ok (.goto (-71), 3) := by decide +kernel
theorem dX1_readSymbol_101 : decode cX1_readSymbol 101 = .ok (.new 42, 3) := by decide +kernel
theorem dX1_readSymbol_104 : decode cX1_readSymbol 104 = .ok (.dup, 1) := by decide +kernel
theorem dX1_readSymbol_105 : decode cX1_readSymbol 105 = .ok (.ldc 44, 2) := by decide +kernel
theorem dX1_readSymbol_107 : decode cX1_readSymbol 107 = .ok (.invokespecial 46, 3) := by decide +kernel
theorem dX1_readSymbol_110 : decode cX1_readSymbol 110 = .ok (.athrow, 1) := by decide +kernel
theorem dX1_readSimple_0 : decode cX1_readSimple 0 = .ok (.aload_n 1, 1) := by decide +kernel
theorem dX1_readSimple_1 : decode cX1_readSimple 1 = .ok (.iconst 2, 1) := by decide +kernel
theorem dX1_readSimple_2 : decode cX1_readSimple 2 = .ok (.invokevirtual 25, 3) := by decide +kernel
theorem dX1_readSimple_5 : decode cX1_readSimple 5 = .ok (.iconst 1, 1) := by decide +kernel
theorem dX1_readSimple_6 : decode cX1_readSimple 6 = .ok (.iadd, 1) := by decide +kernel
theorem dX1_readSimple_7 : decode cX1_readSimple 7 = .ok (.istore_n 3, 1) := by decide +kernel
theorem dX1_readSimple_8 : decode cX1_readSimple 8 = .ok (.iload_n 2, 1) := by decide +kernel
theorem dX1_readSimple_9 : decode cX1_readSimple 9 = .ok (.invokestatic 49, 3) := by decide +kernel
theorem dX1_readSimple_12 : decode cX1_readSimple 12 = .ok (.istore 4, 2) := by decide +kernel
theorem dX1_readSimple_14 : decode cX1_readSimple 14 = .ok (.iconst 0, 1) := by decide +kernel
theorem dX1_readSimple_15 : decode cX1_readSimple 15 = .ok (.istore 5, 2) := by decide +kernel
theorem dX1_readSimple_17 : decode cX1_readSimple 17 = .ok (.iload 5, 2) := by decide +kernel
theorem dX1_readSimple_19 : decode cX1_readSimple 19 = .ok (.iload_n 3, 1) := by decide +kernel
theorem dX1_readSimple_20 : decode cX1_readSimple 20 = .ok (.if_icmp .ge 61, 3) := by decide +kernel
theorem dX1_readSimple_23 : decode cX1_readSimple 23 = .ok (.aload_n 1, 1) := by decide +kernel
theorem dX1_readSimple_24 : decode cX1_readSimple 24 = .ok (.iload 4, 2) := by decide +kernel
theorem dX1_readSimple_26 : decode cX1_readSimple 26 = .ok (.invokevirtual 25, 3) := by decide +kernel
theorem dX1_readSimple_29 : decode cX1_readSimple 29 = .ok (.istore 6, 2) := by decide +kernel
theorem dX1_readSimple_31 : decode cX1_readSimple 31 = .ok (.iload 6, 2) := by decide +kernel
theorem dX1_readSimple_33 : decode cX1_readSimple 33 = .ok (.iload_n 2, 1) := by decide +kernel
theorem dX1_readSimple_34 : decode cX1_readSimple 34 = .ok (.if_icmp .ge 14, 3) := by decide +kernel
theorem dX1_readSimple_37 : decode cX1_readSimple 37 = .ok (.aload_n 0, 1) := by decide +kernel
theorem dX1_readSimple_38 : decode cX1_readSimple 38 = .ok (.getfield 9, 3) := by decide +kernel
theorem dX1_readSimple_41 : decode cX1_readSimple 41 = .ok (.iload 6, 2) := by decide +kernel
theorem dX1_readSimple_43 : decode cX1_readSimple 43 = .ok (.iaload, 1) := by decide +kernel
theorem dX1_readSimple_44 : decode cX1_readSimple 44 = .ok (.iconst (-1), 1) := by decide +kernel
theorem dX1_readSimple_45 : decode cX1_readSimple 45 = .ok (.if_icmp .eq 13, 3) := by decide +kernel
theorem dX1_readSimple_48 : decode cX1_readSimple 48 = .ok (.new 42, 3) := by decide +kernel
theorem dX1_readSimple_51 : decode cX1_readSimple 51 = .ok (.dup, 1) := by decide +kernel
theorem dX1_readSimple_52 : decode cX1_readSimple 52 = .ok (.ldc 52, 2) := by decide +kernel
theorem dX1_readSimple_54 : decode cX1_readSimple 54 = .ok (.invokespecial 46, 3) := by decide +kernel
theorem dX1_readSimple_57 : decode cX1_readSimple 57 = .ok (.athrow, 1) := by decide +kernel
theorem dX1_readSimple_58 : decode cX1_readSimple 58 = .ok (.aload_n 0, 1) := by decide +kernel
theorem dX1_readSimple_59 : decode cX1_readSimple 59 = .ok (.getfield 9, 3) := by decide +kernel
theorem dX1_readSimple_62 : decode cX1_readSimple 62 = .ok (.iload 6, 2) := by decide +kernel
theorem dX1_readSimple_64 : decode cX1_readSimple 64 = .ok (.iconst 0, 1) := by decide +kernel
theorem dX1_readSimple_65 : decode cX1_readSimple 65 = .ok (.iastore, 1) := by decide +kernel
theorem dX1_readSimple_66 : decode cX1_readSimple 66 = .ok (.aload_n 0, 1) := by decide +kernel
theorem dX1_readSimple_67 : decode cX1_readSimple 67 = .ok (.getfield 13, 3) := by decide +kernel
theorem dX1_readSimple_70 : decode cX1_readSimple 70 = .ok (.iload 5, 2) := by decide +kernel
theorem dX1_readSimple_72 : decode cX1_readSimple 72 = .ok (.iload 6, 2) := by decide +kernel
theorem dX1_readSimple_74 : decode cX1_readSimple 74 = .ok (.iastore, 1) := by decide +kernel
theorem dX1_readSimple_75 : decode cX1_readSimple 75 = .ok (.iinc 5 1, 3) := by decide +kernel
theorem dX1_readSimple_78 : decode cX1_readSimple 78 = .ok (.goto (-61), 3) := by decide +kernel
theorem dX1_readSimple_81 : decode cX1_readSimple 81 = .ok (.iload_n 3, 1) := by decide +kernel
theorem dX1_readSimple_82 : decode cX1_readSimple 82 = .ok (.istore 5, 2) := by decide +kernel
theorem dX1_readSimple_84 : decode cX1_readSimple 84 = .ok (.iload_n 3, 1) := by decide +kernel
theorem dX1_readSimple_85 : decode cX1_readSimple 85 = .ok (.iconst 4, 1) := by decide +kernel
theorem dX1_readSimple_86 : decode cX1_readSimple 86 = .ok (.if_icmp .ne 15, 3) := by decide +kernel
theorem dX1_readSimple_89 : decode cX1_readSimple 89 = .ok (.aload_n 1, 1) := by decide +kernel
theorem dX1_readSimple_90 : decode cX1_readSimple 90 = .ok (.iconst 1, 1) := by decide +kernel
theorem dX1_readSimple_91 : decode cX1_readSimple 91 = .ok (.invokevirtual 25, 3) := by decide +kernel
theorem dX1_readSimple_94 : decode cX1_readSimple 94 = .ok (.iconst 1, 1) := by decide +kernel
theorem dX1_readSimple_95 : decode cX1_readSimple 95 = .ok (.if_icmp .ne 6, 3) := by decide +kernel
theorem dX1_readSimple_98 : decode cX1_readSimple 98 = .ok (.iconst 5, 1) := by decide +kernel
theorem dX1_readSimple_99 : decode cX1_readSimple 99 = .ok (.istore 5, 2) := by decide +kernel
theorem dX1_readSimple_101 : decode cX1_readSimple 101 = .ok (.iload 5, 2) := by decide +kernel
theorem dX1_readSimple_103 : decode cX1_readSimple 103 = .ok (.iload 5, 2) := by decide +kernel
theorem dX1_readSimple_105 : decode cX1_readSimple 105 = .ok (.iconst 1, 1) := by decide +kernel
theorem dX1_readSimple_106 : decode cX1_readSimple 106 = .ok (.isub, 1) := by decide +kernel
theorem dX1_readSimple_107 : decode cX1_readSimple 107 = .ok (.imul, 1) := by decide +kernel
theorem dX1_readSimple_108 : decode cX1_readSimple 108 = .ok (.iconst 2, 1) := by decide +kernel
theorem dX1_readSimple_109 : decode cX1_readSimple 109 = .ok (.idiv, 1) := by decide +kernel
theorem dX1_readSimple_110 : decode cX1_readSimple 110 = .ok (.istore 6, 2) := by decide +kernel
theorem dX1_readSimple_112 : decode cX1_readSimple 112 = .ok (.iconst 0, 1) := by decide +kernel
theorem dX1_readSimple_113 : decode cX1_readSimple 113 = .ok (.istore 7, 2) := by decide +kernel
theorem dX1_readSimple_115 : decode cX1_readSimple 115 = .ok (.iload 7, 2) := by decide +kernel
theorem dX1_readSimple_117 : decode cX1_readSimple 117 = .ok (.iload_n 3, 1) := by decide +kernel
theorem dX1_readSimple_118 : decode cX1_readSimple 118 = .ok (.if_icmp .ge 30, 3) := by decide +kernel
theorem dX1_readSimple_121 : decode cX1_readSimple 121 = .ok (.aload_n 0, 1) := by decide +kernel
theorem dX1_readSimple_122 : decode cX1_readSimple 122 = .ok (.getfield 9, 3) := by decide +kernel
theorem dX1_readSimple_125 : decode cX1_readSimple 125 = .ok (.aload_n 0, 1) := by decide +kernel
theorem dX1_readSimple_126 : decode cX1_readSimple 126 = .ok (.getfield 13, 3) := by decide +kernel
theorem dX1_readSimple_129 : decode cX1_readSimple 129 = .ok (.iload 7, 2) := by decide +kernel
theorem dX1_readSimple_131 : decode cX1_readSimple 131 = .ok (.iaload, 1) := by decide +kernel
theorem dX1_readSimple_132 : decode cX1_readSimple 132 = .ok (.getstatic 54, 3) := by decide +kernel
theorem dX1_readSimple_135 : decode cX1_readSimple 135 = .ok (.iload 6, 2) := by decide +kernel
theorem dX1_readSimple_137 : decode cX1_readSimple 137 = .ok (.iload 7, 2) := by decide +kernel
theorem dX1_readSimple_139 : decode cX1_readSimple 139 = .ok (.iadd, 1) := by decide +kernel
theorem dX1_readSimple_140 : decode cX1_readSimple 140 = .ok (.iaload, 1) := by decide +kernel
theorem dX1_readSimple_141 : decode cX1_readSimple 141 = .ok (.iastore, 1) := by decide +kernel
theorem dX1_readSimple_142 : decode cX1_readSimple 142 = .ok (.iinc 7 1, 3) := by decide +kernel
theorem dX1_readSimple_145 : decode cX1_readSimple 145 = .ok (.goto (-30), 3) := by decide +kernel
theorem dX1_readSimple_148 : decode cX1_readSimple 148 = .ok (.return_, 1) := by decide +kernel
theorem dX1_readLengths_0 : decode cX1_readLengths 0 = .ok (.sipush 128, 3) := by decide +kernel
theorem dX1_readLengths_3 : decode cX1_readLengths 3 = .ok (.istore_n 3, 1) := by decide +kernel
theorem dX1_readLengths_4 : decode cX1_readLengths 4 = .ok (.iconst 0, 1) := by decide +kernel
theorem dX1_readLengths_5 : decode cX1_readLengths 5 = .ok (.istore 4, 2) := by decide +kernel
theorem dX1_readLengths_7 : decode cX1_readLengths 7 = .ok (.iload 4, 2) := by decide +kernel
theorem dX1_readLengths_9 : decode cX1_readLengths 9 = .ok (.iload_n 2, 1) := by decide +kernel
theorem dX1_readLengths_10 : decode cX1_readLengths 10 = .ok (.if_icmp .ge 57, 3) := by decide +kernel
theorem dX1_readLengths_13 : decode cX1_readLengths 13 = .ok (.iload_n 3, 1) := by decide +kernel
theorem dX1_readLengths_14 : decode cX1_readLengths 14 = .ok (.ifCond .le 53, 3) := by decide +kernel
theorem dX1_readLengths_17 : decode cX1_readLengths 17 = .ok (.aload_n 1, 1) := by decide +kernel
theorem dX1_readLengths_18 : decode cX1_readLengths 18 = .ok (.iconst 3, 1) := by decide +kernel
theorem dX1_readLengths_19 : decode cX1_readLengths 19 = .ok (.invokevirtual 25, 3) := by decide +kernel
theorem dX1_readLengths_22 : decode cX1_readLengths 22 = .ok (.istore 5, 2) := by decide +kernel
theorem dX1_readLengths_24 : decode cX1_readLengths 24 = .ok (.iload 5, 2) := by decide +kernel
theorem dX1_readLengths_26 : decode cX1_readLengths 26 = .ok (.ifCond .le 21, 3) := by decide +kernel
theorem dX1_readLengths_29 : decode cX1_readLengths 29 = .ok (.iload_n 3, 1) := by decide +kernel
theorem dX1_readLengths_30 : decode cX1_readLengths 30 = .ok (.sipush 128, 3) := by decide +kernel
theorem dX1_readLengths_33 : decode cX1_readLengths 33 = .ok (.iload 5, 2) := by decide +kernel
theorem dX1_readLengths_35 : decode cX1_readLengths 35 = .ok (.ishr, 1) := by decide +kernel
theorem dX1_readLengths_36 : decode cX1_readLengths 36 = .ok (.isub, 1) := by decide +kernel
theorem dX1_readLengths_37 : decode cX1_readLengths 37 = .ok (.istore_n 3, 1) := by decide +kernel
theorem dX1_readLengths_38 : decode cX1_readLengths 38 = .ok (.aload_n 0, 1) := by decide +kernel
theorem dX1_readLengths_39 : decode cX1_readLengths 39 = .ok (.getfield 9, 3) := by decide +kernel
theorem dX1_readLengths_42 : decode cX1_readLengths 42 = .ok (.iload 4, 2) := by decide +kernel
theorem dX1_readLengths_44 : decode cX1_readLengths 44 = .ok (.iload 5, 2) := by decide +kernel
theorem dX1_readLengths_46 : decode cX1_readLengths 46 = .ok (.iastore, 1) := by decide +kernel
theorem dX1_readLengths_47 : decode cX1_readLengths 47 = .ok (.iload_n 3, 1) := by decide +kernel
theorem dX1_readLengths_48 : decode cX1_readLengths 48 = .ok (.ifCond .ge 13, 3) := by decide +kernel
theorem dX1_readLengths_51 : decode cX1_readLengths 51 = .ok (.new 42, 3) := by decide +kernel
theorem dX1_readLengths_54 : decode cX1_readLengths 54 = .ok (.dup, 1) := by decide +kernel
theorem dX1_readLengths_55 : decode cX1_readLengths 55 = .ok (.ldc 57, 2) := by decide +kernel
theorem dX1_readLengths_57 : decode cX1_readLengths 57 = .ok (.invokespecial 46, 3) := by decide +kernel
theorem dX1_readLengths_60 : decode cX1_readLengths 60 = .ok (.athrow, 1) := by decide +kernel
theorem dX1_readLengths_61 : decode cX1_readLengths 61 = .ok (.iinc 4 1, 3) := by decide +kernel
theorem dX1_readLengths_64 : decode cX1_readLengths 64 = .ok (.goto (-57), 3) := by decide +kernel
theorem dX1_readLengths_67 : decode cX1_readLengths 67 = .ok (.iload_n 3, 1) := by decide +kernel
theorem dX1_readLengths_68 : decode cX1_readLengths 68 = .ok (.ifCond .le 13, 3) := by decide +kernel
theorem dX1_readLengths_71 : decode cX1_readLengths 71 = .ok (.new 42, 3) := by decide +kernel
theorem dX1_readLengths_74 : decode cX1_readLengths 74 = .ok (.dup, 1) := by decide +kernel
theorem dX1_readLengths_75 : decode cX1_readLengths 75 = .ok (.ldc 59, 2) := by decide +kernel
theorem dX1_readLengths_77 : decode cX1_readLengths 77 = .ok (.invokespecial 46, 3) := by decide +kernel
theorem dX1_readLengths_80 : decode cX1_readLengths 80 = .ok (.athrow, 1) := by decide +kernel
theorem dX1_readLengths_81 : decode cX1_readLengths 81 = .ok (.return_, 1) := by decide +kernel
theorem dX1_orderSymbols_0 : decode cX1_orderSymbols 0 = .ok (.iconst 0, 1) := by decide +kernel
theorem dX1_orderSymbols_1 : decode cX1_orderSymbols 1 = .ok (.istore_n 2, 1) := by decide +kernel
theorem dX1_orderSymbols_2 : decode cX1_orderSymbols 2 = .ok (.iconst 0, 1) := by decide +kernel
theorem dX1_orderSymbols_3 : decode cX1_orderSymbols 3 = .ok (.istore_n 3, 1) := by decide +kernel
theorem dX1_orderSymbols_4 : decode cX1_orderSymbols 4 = .ok (.iload_n 3, 1) := by decide +kernel
theorem dX1_orderSymbols_5 : decode cX1_orderSymbols 5 = .ok (.bipush 7, 2) := by decide +kernel
theorem dX1_orderSymbols_7 : decode cX1_orderSymbols 7 = .ok (.if_icmp .gt 59, 3) := by decide +kernel
theorem dX1_orderSymbols_10 : decode cX1_orderSymbols 10 = .ok (.iload_n 2, 1) := by decide +kernel
theorem dX1_orderSymbols_11 : decode cX1_orderSymbols 11 = .ok (.istore 4, 2) := by decide +kernel
theorem dX1_orderSymbols_13 : decode cX1_orderSymbols 13 = .ok (.iconst 0, 1) := by decide +kernel
theorem dX1_orderSymbols_14 : decode cX1_orderSymbols 14 = .ok (.istore 5, 2) := by decide +kernel
theorem dX1_orderSymbols_16 : decode cX1_orderSymbols 16 = .ok (.iload 5, 2) := by decide +kernel
theorem dX1_orderSymbols_18 : decode cX1_orderSymbols 18 = .ok (.iload_n 1, 1) := by decide +kernel
theorem dX1_orderSymbols_19 : decode cX1_orderSymbols 19 = .ok (.if_icmp .ge 31, 3) := by decide +kernel
theorem dX1_orderSymbols_22 : decode cX1_orderSymbols 22 = .ok (.aload_n 0, 1) := by decide +kernel
theorem dX1_orderSymbols_23 : decode cX1_orderSymbols 23 = .ok (.getfield 9, 3) := by decide +kernel
theorem dX1_orderSymbols_26 : decode cX1_orderSymbols 26 = .ok (.iload 5, 2) := by decide +kernel
theorem dX1_orderSymbols_28 : decode cX1_orderSymbols 28 = .ok (.iaload, 1) := by decide +kernel
theorem dX1_orderSymbols_29 : decode cX1_orderSymbols 29 = .ok (.iload_n 3, 1) := by decide +kernel
theorem dX1_orderSymbols_30 : decode cX1_orderSymbols 30 = .ok (.if_icmp .ne 14, 3) := by decide +kernel
theorem dX1_orderSymbols_33 : decode cX1_orderSymbols 33 = .ok (.aload_n 0, 1) := by decide +kernel
theorem dX1_orderSymbols_34 : decode cX1_orderSymbols 34 = .ok (.getfield 13, 3) := by decide +kernel
theorem dX1_orderSymbols_37 : decode cX1_orderSymbols 37 = .ok (.iload_n 2, 1) := by decide +kernel
theorem dX1_orderSymbols_38 : decode cX1_orderSymbols 38 = .ok (.iload 5, 2) := by decide +kernel
theorem dX1_orderSymbols_40 : decode cX1_orderSymbols 40 = .ok (.iastore, 1) := by decide +kernel
theorem dX1_orderSymbols_41 : decode cX1_orderSymbols 41 = .ok (.iinc 2 1, 3) := by decide +kernel
theorem dX1_orderSymbols_44 : decode cX1_orderSymbols 44 = .ok (.iinc 5 1, 3) := by decide +kernel
theorem dX1_orderSymbols_47 : decode cX1_orderSymbols 47 = .ok (.goto (-31), 3) := by decide +kernel
theorem dX1_orderSymbols_50 : decode cX1_orderSymbols 50 = .ok (.aload_n 0, 1) := by decide +kernel
theorem dX1_orderSymbols_51 : decode cX1_orderSymbols 51 = .ok (.getfield 16, 3) := by decide +kernel
theorem dX1_orderSymbols_54 : decode cX1_orderSymbols 54 = .ok (.iload_n 3, 1) := by decide +kernel
theorem dX1_orderSymbols_55 : decode cX1_orderSymbols 55 = .ok (.iload_n 2, 1) := by decide +kernel
theorem dX1_orderSymbols_56 : decode cX1_orderSymbols 56 = .ok (.iload 4, 2) := by decide +kernel
theorem dX1_orderSymbols_58 : decode cX1_orderSymbols 58 = .ok (.isub, 1) := by decide +kernel
theorem dX1_orderSymbols_59 : decode cX1_orderSymbols 59 = .ok (.iastore, 1) := by decide +kernel
theorem dX1_orderSymbols_60 : decode cX1_orderSymbols 60 = .ok (.iinc 3 1, 3) := by decide +kernel
theorem dX1_orderSymbols_63 : decode cX1_orderSymbols 63 = .ok (.goto (-59), 3) := by decide +kernel
theorem dX1_orderSymbols_66 : decode cX1_orderSymbols 66 = .ok (.return_, 1) := by decide +kernel
theorem dX1_symbolBits_0 : decode cX1_symbolBits 0 = .ok (.iconst 0, 1) := by decide +kernel
theorem dX1_symbolBits_1 : decode cX1_symbolBits 1 = .ok (.istore_n 1, 1) := by decide +kernel
theorem dX1_symbolBits_2 : decode cX1_symbolBits 2 = .ok (.iload_n 1, 1) := by decide +kernel
theorem dX1_symbolBits_3 : decode cX1_symbolBits 3 = .ok (.iconst 5, 1) := by decide +kernel
theorem dX1_symbolBits_4 : decode cX1_symbolBits 4 = .ok (.if_icmp .ge 16, 3) := by decide +kernel
theorem dX1_symbolBits_7 : decode cX1_symbolBits 7 = .ok (.iconst 1, 1) := by decide +kernel
theorem dX1_symbolBits_8 : decode cX1_symbolBits 8 = .ok (.iload_n 1, 1) := by decide +kernel
theorem dX1_symbolBits_9 : decode cX1_symbolBits 9 = .ok (.ishl, 1) := by decide +kernel
theorem dX1_symbolBits_10 : decode cX1_symbolBits 10 = .ok (.iload_n 0, 1) := by decide +kernel
theorem dX1_symbolBits_11 : decode cX1_symbolBits 11 = .ok (.if_icmp .ge 9, 3) := by decide +kernel
theorem dX1_symbolBits_14 : decode cX1_symbolBits 14 = .ok (.iinc 1 1, 3) := by decide +kernel
theorem dX1_symbolBits_17 : decode cX1_symbolBits 17 = .ok (.goto (-15), 3) := by decide +kernel
theorem dX1_symbolBits_20 : decode cX1_symbolBits 20 = .ok (.iload_n 1, 1) := by decide +kernel
theorem dX1_symbolBits_21 : decode cX1_symbolBits 21 = .ok (.ireturn, 1) := by decide +kernel
theorem dX2_init_0 : decode cX2_init 0 = .ok (.aload_n 0, 1) := by decide +kernel
theorem dX2_init_1 : decode cX2_init 1 = .ok (.invokespecial 1, 3) := by decide +kernel
theorem dX2_init_4 : decode cX2_init 4 = .ok (.aload_n 0, 1) := by decide +kernel
theorem dX2_init_5 : decode cX2_init 5 = .ok (.new 7, 3) := by decide +kernel
theorem dX2_init_8 : decode cX2_init 8 = .ok (.dup, 1) := by decide +kernel
theorem dX2_init_9 : decode cX2_init 9 = .ok (.invokespecial 9, 3) := by decide +kernel
theorem dX2_init_12 : decode cX2_init 12 = .ok (.putfield 10, 3) := by decide +kernel
theorem dX2_init_15 : decode cX2_init 15 = .ok (.aload_n 0, 1) := by decide +kernel
theorem dX2_init_16 : decode cX2_init 16 = .ok (.iconst 4, 1) := by decide +kernel
theorem dX2_init_17 : decode cX2_init 17 = .ok (.anewarray 7, 3) := by decide +kernel
theorem dX2_init_20 : decode cX2_init 20 = .ok (.dup, 1) := by decide +kernel
theorem dX2_init_21 : decode cX2_init 21 = .ok (.iconst 0, 1) := by decide +kernel
theorem dX2_init_22 : decode cX2_init 22 = .ok (.new 7, 3) := by decide +kernel
theorem dX2_init_25 : decode cX2_init 25 = .ok (.dup, 1) := by decide +kernel
theorem dX2_init_26 : decode cX2_init 26 = .ok (.invokespecial 9, 3) := by decide +kernel
theorem dX2_init_29 : decode cX2_init 29 = .ok (.aastore, 1) := by decide +kernel
theorem dX2_init_30 : decode cX2_init 30 = .ok (.dup, 1) := by decide +kernel
theorem dX2_init_31 : decode cX2_init 31 = .ok (.iconst 1, 1) := by decide +kernel
theorem dX2_init_32 : decode cX2_init 32 = .ok (.new 7, 3) := by decide +kernel
theorem dX2_init_35 : decode cX2_init 35 = .ok (.dup, 1) := by decide +kernel
theorem dX2_init_36 : decode cX2_init 36 = .ok (.invokespecial 9, 3) := by decide +kernel
theorem dX2_init_39 : decode cX2_init 39 = .ok (.aastore, 1) := by decide +kernel
theorem dX2_init_40 : decode cX2_init 40 = .ok (.dup, 1) := by decide +kernel
theorem dX2_init_41 : decode cX2_init 41 = .ok (.iconst 2, 1) := by decide +kernel
theorem dX2_init_42 : decode cX2_init 42 = .ok (.new 7, 3) := by decide +kernel
theorem dX2_init_45 : decode cX2_init 45 = .ok (.dup, 1) := by decide +kernel
theorem dX2_init_46 : decode cX2_init 46 = .ok (.invokespecial 9, 3) := by decide +kernel
theorem dX2_init_49 : decode cX2_init 49 = .ok (.aastore, 1) := by decide +kernel
theorem dX2_init_50 : decode cX2_init 50 = .ok (.dup, 1) := by decide +kernel
theorem dX2_init_51 : decode cX2_init 51 = .ok (.iconst 3, 1) := by decide +kernel
theorem dX2_init_52 : decode cX2_init 52 = .ok (.new 7, 3) := by decide +kernel
theorem dX2_init_55 : decode cX2_init 55 = .ok (.dup, 1) := by decide +kernel
theorem dX2_init_56 : decode cX2_init 56 = .ok (.invokespecial 9, 3) := by decide +kernel
theorem dX2_init_59 : decode cX2_init 59 = .ok (.aastore, 1) := by decide +kernel
theorem dX2_init_60 : decode cX2_init 60 = .ok (.putfield 16, 3) := by decide +kernel
theorem dX2_init_63 : decode cX2_init 63 = .ok (.aload_n 0, 1) := by decide +kernel
theorem dX2_init_64 : decode cX2_init 64 = .ok (.iconst 3, 1) := by decide +kernel
theorem dX2_init_65 : decode cX2_init 65 = .ok (.newarray .int, 2) := by decide +kernel
theorem dX2_init_67 : decode cX2_init 67 = .ok (.putfield 20, 3) := by decide +kernel
theorem dX2_init_70 : decode cX2_init 70 = .ok (.aload_n 0, 1) := by decide +kernel
theorem dX2_init_71 : decode cX2_init 71 = .ok (.bipush 12, 2) := by decide +kernel
theorem dX2_init_73 : decode cX2_init 73 = .ok (.newarray .int, 2) := by decide +kernel
theorem dX2_init_75 : decode cX2_init 75 = .ok (.putfield 24, 3) := by decide +kernel
theorem dX2_init_78 : decode cX2_init 78 = .ok (.aload_n 0, 1) := by decide +kernel
theorem dX2_init_79 : decode cX2_init 79 = .ok (.iconst 4, 1) := by decide +kernel
theorem dX2_init_80 : decode cX2_init 80 = .ok (.newarray .int, 2) := by decide +kernel
theorem dX2_init_82 : decode cX2_init 82 = .ok (.putfield 27, 3) := by decide +kernel
theorem dX2_init_85 : decode cX2_init 85 = .ok (.return_, 1) := by decide +kernel
theorem dX2_readTypes_0 : decode cX2_readTypes 0 = .ok (.aload_n 0, 1) := by decide +kernel
theorem dX2_readTypes_1 : decode cX2_readTypes 1 = .ok (.aload_n 1, 1) := by decide +kernel
theorem dX2_readTypes_2 : decode cX2_readTypes 2 = .ok (.iconst 2, 1) := by decide +kernel
theorem dX2_readTypes_3 : decode cX2_readTypes 3 = .ok (.invokevirtual 30, 3) := by decide +kernel
theorem dX2_readTypes_6 : decode cX2_readTypes 6 = .ok (.iconst 1, 1) := by decide +kernel
theorem dX2_readTypes_7 : decode cX2_readTypes 7 = .ok (.iadd, 1) := by decide +kernel
theorem dX2_readTypes_8 : decode cX2_readTypes 8 = .ok (.putfield 36, 3) := by decide +kernel
theorem dX2_readTypes_11 : decode cX2_readTypes 11 = .ok (.aload_n 0, 1) := by decide +kernel
theorem dX2_readTypes_12 : decode cX2_readTypes 12 = .ok (.getfield 36, 3) := by decide +kernel
theorem dX2_readTypes_15 : decode cX2_readTypes 15 = .ok (.iconst 3, 1) := by decide +kernel
theorem dX2_readTypes_16 : decode cX2_readTypes 16 = .ok (.if_icmp .le 13, 3) := by decide +kernel
theorem dX2_readTypes_19 : decode cX2_readTypes 19 = .ok (.new 40, 3) := by decide +kernel
theorem dX2_readTypes_22 : decode cX2_readTypes 22 = .ok (.dup, 1) := by decide +kernel
theorem dX2_readTypes_23 : decode cX2_readTypes 23 = .ok (.ldc 42, 2) := by decide +kernel
theorem dX2_readTypes_25 : decode cX2_readTypes 25 = .ok (.invokespecial 44, 3) := by decide +kernel
theorem dX2_readTypes_28 : decode cX2_readTypes 28 = .ok (.athrow, 1) := by decide +kernel
theorem dX2_readTypes_29 : decode cX2_readTypes 29 = .ok (.aload_n 0, 1) := by decide +kernel
theorem dX2_readTypes_30 : decode cX2_readTypes 30 = .ok (.iconst 0, 1) := by decide +kernel
theorem dX2_readTypes_31 : decode cX2_readTypes 31 = .ok (.putfield 47, 3) := by decide +kernel
theorem dX2_readTypes_34 : decode cX2_readTypes 34 = .ok (.aload_n 0, 1) := by decide +kernel
theorem dX2_readTypes_35 : decode cX2_readTypes 35 = .ok (.iconst 1, 1) := by decide +kernel
theorem dX2_readTypes_36 : decode cX2_readTypes 36 = .ok (.putfield 50, 3) := by decide +kernel
theorem dX2_readTypes_39 : decode cX2_readTypes 39 = .ok (.aload_n 0, 1) := by decide +kernel
theorem dX2_readTypes_40 : decode cX2_readTypes 40 = .ok (.getfield 36, 3) := by decide +kernel
theorem dX2_readTypes_43 : decode cX2_readTypes 43 = .ok (.iconst 1, 1) := by decide +kernel
theorem dX2_readTypes_44 : decode cX2_readTypes 44 = .ok (.if_icmp .le 28, 3) := by decide +kernel
theorem dX2_readTypes_47 : decode cX2_readTypes 47 = .ok (.aload_n 0, 1) := by decide +kernel
theorem dX2_readTypes_48 : decode cX2_readTypes 48 = .ok (.getfield 10, 3) := by decide +kernel
theorem dX2_readTypes_51 : decode cX2_readTypes 51 = .ok (.aload_n 1, 1) := by decide +kernel
theorem dX2_readTypes_52 : decode cX2_readTypes 52 = .ok (.aload_n 0, 1) := by decide +kernel
theorem dX2_readTypes_53 : decode cX2_readTypes 53 = .ok (.getfield 36, 3) := by decide +kernel
theorem dX2_readTypes_56 : decode cX2_readTypes 56 = .ok (.iconst 2, 1) := by decide +kernel
theorem dX2_readTypes_57 : decode cX2_readTypes 57 = .ok (.iadd, 1) := by decide +kernel
theorem dX2_readTypes_58 : decode cX2_readTypes 58 = .ok (.invokevirtual 53, 3) := by decide +kernel
theorem dX2_readTypes_61 : decode cX2_readTypes 61 = .ok (.aload_n 0, 1) := by decide +kernel
theorem dX2_readTypes_62 : decode cX2_readTypes 62 = .ok (.aload_n 1, 1) := by decide +kernel
theorem dX2_readTypes_63 : decode cX2_readTypes 63 = .ok (.iconst 5, 1) := by decide +kernel
theorem dX2_readTypes_64 : decode cX2_readTypes 64 = .ok (.invokevirtual 30, 3) := by decide +kernel
theorem dX2_readTypes_67 : decode cX2_readTypes 67 = .ok (.iconst 1, 1) := by decide +kernel
theorem dX2_readTypes_68 : decode cX2_readTypes 68 = .ok (.iadd, 1) := by decide +kernel
theorem dX2_readTypes_69 : decode cX2_readTypes 69 = .ok (.putfield 57, 3) := by decide +kernel
theorem dX2_readTypes_72 : decode cX2_readTypes 72 = .ok (.iconst 0, 1) := by decide +kernel
theorem dX2_readTypes_73 : decode cX2_readTypes 73 = .ok (.istore_n 2, 1) := by decide +kernel
theorem dX2_readTypes_74 : decode cX2_readTypes 74 = .ok (.iload_n 2, 1) := by decide +kernel
theorem dX2_readTypes_75 : decode cX2_readTypes 75 = .ok (.aload_n 0, 1) := by decide +kernel
theorem dX2_readTypes_76 : decode cX2_readTypes 76 = .ok (.getfield 36, 3) := by decide +kernel
theorem dX2_readTypes_79 : decode cX2_readTypes 79 = .ok (.if_icmp .ge 20, 3) := by decide +kernel
theorem dX2_readTypes_82 : decode cX2_readTypes 82 = .ok (.aload_n 0, 1) := by decide +kernel
theorem dX2_readTypes_83 : decode cX2_readTypes 83 = .ok (.getfield 20, 3) := by decide +kernel
theorem dX2_readTypes_86 : decode cX2_readTypes 86 = .ok (.iload_n 2, 1) := by decide +kernel
theorem dX2_readTypes_87 : decode cX2_readTypes 87 = .ok (.aload_n 1, 1) := by decide +kernel
theorem dX2_readTypes_88 : decode cX2_readTypes 88 = .ok (.iconst 2, 1) := by decide +kernel
theorem dX2_readTypes_89 : decode cX2_readTypes 89 = .ok (.invokevirtual 30, 3) := by decide +kernel
theorem dX2_readTypes_92 : decode cX2_readTypes 92 = .ok (.iastore, 1) := by decide +kernel
theorem dX2_readTypes_93 : decode cX2_readTypes 93 = .ok (.iinc 2 1, 3) := by decide +kernel
theorem dX2_readTypes_96 : decode cX2_readTypes 96 = .ok (.goto (-22), 3) := by decide +kernel
theorem dX2_readTypes_99 : decode cX2_readTypes 99 = .ok (.return_, 1) := by decide +kernel
theorem dX2_readLetterCodes_0 : decode cX2_readLetterCodes 0 = .ok (.aload_n 1, 1) := by decide +kernel
theorem dX2_readLetterCodes_1 : decode cX2_readLetterCodes 1 = .ok (.iconst 2, 1) := by decide +kernel
theorem dX2_readLetterCodes_2 : decode cX2_readLetterCodes 2 = .ok (.invokevirtual 30, 3) := by decide +kernel
theorem dX2_readLetterCodes_5 : decode cX2_readLetterCodes 5 = .ok (.iconst 1, 1) := by decide +kernel
theorem dX2_readLetterCodes_6 : decode cX2_readLetterCodes 6 = .ok (.iadd, 1) := by decide +kernel
theorem dX2_readLetterCodes_7 : decode cX2_readLetterCodes 7 = .ok (.istore_n 2, 1) := by decide +kernel
theorem dX2_readLetterCodes_8 : decode cX2_readLetterCodes 8 = .ok (.iload_n 2, 1) := by decide +kernel
theorem dX2_readLetterCodes_9 : decode cX2_readLetterCodes 9 = .ok (.iconst 1, 1) := by decide +kernel
theorem dX2_readLetterCodes_10 : decode cX2_readLetterCodes 10 = .ok (.if_icmp .le 12, 3) := by decide +kernel
theorem dX2_readLetterCodes_13 : decode cX2_readLetterCodes 13 = .ok (.aload_n 0, 1) := by decide +kernel
theorem dX2_readLetterCodes_14 : decode cX2_readLetterCodes 14 = .ok (.aload_n 1, 1) := by decide +kernel
theorem dX2_readLetterCodes_15 : decode cX2_readLetterCodes 15 = .ok (.iload_n 2, 1) := by decide +kernel
theorem dX2_readLetterCodes_16 : decode cX2_readLetterCodes 16 = .ok (.invokevirtual 60, 3) := by decide +kernel
theorem dX2_readLetterCodes_19 : decode cX2_readLetterCodes 19 = .ok (.goto 11, 3) := by decide +kernel
theorem dX2_readLetterCodes_22 : decode cX2_readLetterCodes 22 = .ok (.aload_n 0, 1) := by decide +kernel
theorem dX2_readLetterCodes_23 : decode cX2_readLetterCodes 23 = .ok (.getfield 24, 3) := by decide +kernel
theorem dX2_readLetterCodes_26 : decode cX2_readLetterCodes 26 = .ok (.iconst 0, 1) := by decide +kernel
theorem dX2_readLetterCodes_27 : decode cX2_readLetterCodes 27 = .ok (.invokestatic 63, 3) := by decide +kernel
theorem dX2_readLetterCodes_30 : decode cX2_readLetterCodes 30 = .ok (.iconst 0, 1) := by decide +kernel
theorem dX2_readLetterCodes_31 : decode cX2_readLetterCodes 31 = .ok (.istore_n 3, 1) := by decide +kernel
theorem dX2_readLetterCodes_32 : decode cX2_readLetterCodes 32 = .ok (.iload_n 3, 1) := by decide +kernel
theorem dX2_readLetterCodes_33 : decode cX2_readLetterCodes 33 = .ok (.iload_n 2, 1) := by decide +kernel
theorem dX2_readLetterCodes_34 : decode cX2_readLetterCodes 34 = .ok (.if_icmp .ge 21, 3) := by decide +kernel
theorem dX2_readLetterCodes_37 : decode cX2_readLetterCodes 37 = .ok (.aload_n 0, 1) := by decide +kernel
theorem dX2_readLetterCodes_38 : decode cX2_readLetterCodes 38 = .ok (.getfield 16, 3) := by decide +kernel
theorem dX2_readLetterCodes_41 : decode cX2_readLetterCodes 41 = .ok (.iload_n 3, 1) := by decide +kernel
theorem dX2_readLetterCodes_42 : decode cX2_readLetterCodes 42 = .ok (.aaload, 1) := by decide +kernel
theorem dX2_readLetterCodes_43 : decode cX2_readLetterCodes 43 = .ok (.aload_n 1, 1) := by decide +kernel
theorem dX2_readLetterCodes_44 : decode cX2_readLetterCodes 44 = .ok (.bipush 32, 2) := by decide +kernel
theorem dX2_readLetterCodes_46 : decode cX2_readLetterCodes 46 = .ok (.invokevirtual 53, 3) := by decide +kernel
theorem dX2_readLetterCodes_49 : decode cX2_readLetterCodes 49 = .ok (.iinc 3 1, 3) := by decide +kernel
theorem dX2_readLetterCodes_52 : decode cX2_readLetterCodes 52 = .ok (.goto (-20), 3) := by decide +kernel
theorem dX2_readLetterCodes_55 : decode cX2_readLetterCodes 55 = .ok (.return_, 1) := by decide +kernel
theorem dX2_stretchIsOver_0 : decode cX2_stretchIsOver 0 = .ok (.aload_n 0, 1) := by decide +kernel
theorem dX2_stretchIsOver_1 : decode cX2_stretchIsOver 1 = .ok (.getfield 36, 3) := by decide +kernel
theorem dX2_stretchIsOver_4 : decode cX2_stretchIsOver 4 = .ok (.iconst 1, 1) := by decide +kernel
theorem dX2_stretchIsOver_5 : decode cX2_stretchIsOver 5 = .ok (.if_icmp .le 14, 3) := by decide +kernel
theorem dX2_stretchIsOver_8 : decode cX2_stretchIsOver 8 = .ok (.aload_n 0, 1) := by decide +kernel
theorem dX2_stretchIsOver_9 : decode cX2_stretchIsOver 9 = .ok (.getfield 57, 3) := by decide +kernel
theorem dX2_stretchIsOver_12 : decode cX2_stretchIsOver 12 = .ok (.ifCond .ne 7, 3) := by decide +kernel
theorem dX2_stretchIsOver_15 : decode cX2_stretchIsOver 15 = .ok (.iconst 1, 1) := by decide +kernel
theorem dX2_stretchIsOver_16 : decode cX2_stretchIsOver 16 = .ok (.goto 4, 3) := by decide +kernel
theorem dX2_stretchIsOver_19 : decode cX2_stretchIsOver 19 = .ok (.iconst 0, 1) := by decide +kernel
theorem dX2_stretchIsOver_20 : decode cX2_stretchIsOver 20 = .ok (.ireturn, 1) := by decide +kernel
theorem dX2_readStretch_0 : decode cX2_readStretch 0 = .ok (.aload_n 0, 1) := by decide +kernel
theorem dX2_readStretch_1 : decode cX2_readStretch 1 = .ok (.getfield 10, 3) := by decide +kernel
theorem dX2_readStretch_4 : decode cX2_readStretch 4 = .ok (.aload_n 1, 1) := by decide +kernel
theorem dX2_readStretch_5 : decode cX2_readStretch 5 = .ok (.invokevirtual 69, 3) := by decide +kernel
theorem dX2_readStretch_8 : decode cX2_readStretch 8 = .ok (.istore_n 2, 1) := by decide +kernel
theorem dX2_readStretch_9 : decode cX2_readStretch 9 = .ok (.aload_n 0, 1) := by decide +kernel
theorem dX2_readStretch_10 : decode cX2_readStretch 10 = .ok (.getfield 47, 3) := by decide +kernel
theorem dX2_readStretch_13 : decode cX2_readStretch 13 = .ok (.istore_n 3, 1) := by decide +kernel
theorem dX2_readStretch_14 : decode cX2_readStretch 14 = .ok (.iload_n 2, 1) := by decide +kernel
theorem dX2_readStretch_15 : decode cX2_readStretch 15 = .ok (.ifCond .ne 14, 3) := by decide +kernel
theorem dX2_readStretch_18 : decode cX2_readStretch 18 = .ok (.aload_n 0, 1) := by decide +kernel
theorem dX2_readStretch_19 : decode cX2_readStretch 19 = .ok (.aload_n 0, 1) := by decide +kernel
theorem dX2_readStretch_20 : decode cX2_readStretch 20 = .ok (.getfield 50, 3) := by decide +kernel
theorem dX2_readStretch_23 : decode cX2_readStretch 23 = .ok (.putfield 47, 3) := by decide +kernel
theorem dX2_readStretch_26 : decode cX2_readStretch 26 = .ok (.goto 39, 3) := by decide +kernel
theorem dX2_readStretch_29 : decode cX2_readStretch 29 = .ok (.iload_n 2, 1) := by decide +kernel
theorem dX2_readStretch_30 : decode cX2_readStretch 30 = .ok (.iconst 1, 1) := by decide +kernel
theorem dX2_readStretch_31 : decode cX2_readStretch 31 = .ok (.if_icmp .ne 27, 3) := by decide +kernel
theorem dX2_readStretch_34 : decode cX2_readStretch 34 = .ok (.aload_n 0, 1) := by decide +kernel
theorem dX2_readStretch_35 : decode cX2_readStretch 35 = .ok (.iload_n 3, 1) := by decide +kernel
theorem dX2_readStretch_36 : decode cX2_readStretch 36 = .ok (.iconst 1, 1) := by decide +kernel
theorem dX2_readStretch_37 : decode cX2_readStretch 37 = .ok (.iadd, 1) := by decide +kernel
theorem dX2_readStretch_38 : decode cX2_readStretch 38 = .ok (.aload_n 0, 1) := by decide +kernel
theorem dX2_readStretch_39 : decode cX2_readStretch 39 = .ok (.getfield 36, 3) := by decide +kernel
theorem dX2_readStretch_42 : decode cX2_readStretch 42 = .ok (.if_icmp .ge 9, 3) := by decide +kernel
theorem dX2_readStretch_45 : decode cX2_readStretch 45 = .ok (.iload_n 3, 1) := by decide +kernel
theorem dX2_readStretch_46 : decode cX2_readStretch 46 = .ok (.iconst 1, 1) := by decide +kernel
theorem dX2_readStretch_47 : decode cX2_readStretch 47 = .ok (.iadd, 1) := by decide +kernel
theorem dX2_readStretch_48 : decode cX2_readStretch 48 = .ok (.goto 4, 3) := by decide +kernel
theorem dX2_readStretch_51 : decode cX2_readStretch 51 = .ok (.iconst 0, 1) := by decide +kernel
theorem dX2_readStretch_52 : decode cX2_readStretch 52 = .ok (.putfield 47, 3) := by decide +kernel
theorem dX2_readStretch_55 : decode cX2_readStretch 55 = .ok (.goto 10, 3) := by decide +kernel
theorem dX2_readStretch_58 : decode cX2_readStretch 58 = .ok (.aload_n 0, 1) := by decide +kernel
theorem dX2_readStretch_59 : decode cX2_readStretch 59 = .ok (.iload_n 2, 1) := by decide +kernel
theorem dX2_readStretch_60 : decode cX2_readStretch 60 = .ok (.iconst 2, 1) := by decide +kernel
theorem dX2_readStretch_61 : decode cX2_readStretch 61 = .ok (.isub, 1) := by decide +kernel
theorem dX2_readStretch_62 : decode cX2_readStretch 62 = .ok (.putfield 47, 3) := by decide +kernel
theorem dX2_readStretch_65 : decode cX2_readStretch 65 = .ok (.aload_n 0, 1) := by decide +kernel
theorem dX2_readStretch_66 : decode cX2_readStretch 66 = .ok (.iload_n 3, 1) := by decide +kernel
theorem dX2_readStretch_67 : decode cX2_readStretch 67 = .ok (.putfield 50, 3) := by decide +kernel
theorem dX2_readStretch_70 : decode cX2_readStretch 70 = .ok (.aload_n 0, 1) := by decide +kernel
theorem dX2_readStretch_71 : decode cX2_readStretch 71 = .ok (.aload_n 1, 1) := by decide +kernel
theorem dX2_readStretch_72 : decode cX2_readStretch 72 = .ok (.iconst 5, 1) := by decide +kernel
theorem dX2_readStretch_73 : decode cX2_readStretch 73 = .ok (.invokevirtual 30, 3) := by decide +kernel
theorem dX2_readStretch_76 : decode cX2_readStretch 76 = .ok (.iconst 1, 1) := by decide +kernel
theorem dX2_readStretch_77 : decode cX2_readStretch 77 = .ok (.iadd, 1) := by decide +kernel
theorem dX2_readStretch_78 : decode cX2_readStretch 78 = .ok (.putfield 57, 3) := by decide +kernel
theorem dX2_readStretch_81 : decode cX2_readStretch 81 = .ok (.return_, 1) := by decide +kernel
theorem dX2_readLetter_0 : decode cX2_readLetter 0 = .ok (.aload_n 0, 1) := by decide +kernel
theorem dX2_readLetter_1 : decode cX2_readLetter 1 = .ok (.getfield 36, 3) := by decide +kernel
theorem dX2_readLetter_4 : decode cX2_readLetter 4 = .ok (.iconst 1, 1) := by decide +kernel
theorem dX2_readLetter_5 : decode cX2_readLetter 5 = .ok (.if_icmp .le 13, 3) := by decide +kernel
theorem dX2_readLetter_8 : decode cX2_readLetter 8 = .ok (.aload_n 0, 1) := by decide +kernel
theorem dX2_readLetter_9 : decode cX2_readLetter 9 = .ok (.dup, 1) := by decide +kernel
theorem dX2_readLetter_10 : decode cX2_readLetter 10 = .ok (.getfield 57, 3) := by decide +kernel
theorem dX2_readLetter_13 : decode cX2_readLetter 13 = .ok (.iconst 1, 1) := by decide +kernel
theorem dX2_readLetter_14 : decode cX2_readLetter 14 = .ok (.isub, 1) := by decide +kernel
theorem dX2_readLetter_15 : decode cX2_readLetter 15 = .ok (.putfield 57, 3) := by decide +kernel
theorem dX2_readLetter_18 : decode cX2_readLetter 18 = .ok (.aload_n 0, 1) := by decide +kernel
theorem dX2_readLetter_19 : decode cX2_readLetter 19 = .ok (.getfield 24, 3) := by decide +kernel
theorem dX2_readLetter_22 : decode cX2_readLetter 22 = .ok (.aload_n 0, 1) := by decide +kernel
theorem dX2_readLetter_23 : decode cX2_readLetter 23 = .ok (.getfield 47, 3) := by decide +kernel
theorem dX2_readLetter_26 : decode cX2_readLetter 26 = .ok (.iconst 4, 1) := by decide +kernel
theorem dX2_readLetter_27 : decode cX2_readLetter 27 = .ok (.imul, 1) := by decide +kernel
theorem dX2_readLetter_28 : decode cX2_readLetter 28 = .ok (.aload_n 0, 1) := by decide +kernel
theorem dX2_readLetter_29 : decode cX2_readLetter 29 = .ok (.getfield 20, 3) := by decide +kernel
theorem dX2_readLetter_32 : decode cX2_readLetter 32 = .ok (.aload_n 0, 1) := by decide +kernel
theorem dX2_readLetter_33 : decode cX2_readLetter 33 = .ok (.getfield 47, 3) := by decide +kernel
theorem dX2_readLetter_36 : decode cX2_readLetter 36 = .ok (.iaload, 1) := by decide +kernel
theorem dX2_readLetter_37 : decode cX2_readLetter 37 = .ok (.iload_n 2, 1) := by decide +kernel
theorem dX2_readLetter_38 : decode cX2_readLetter 38 = .ok (.iload_n 3, 1) := by decide +kernel
theorem dX2_readLetter_39 : decode cX2_readLetter 39 = .ok (.invokestatic 73, 3) := by decide +kernel
theorem dX2_readLetter_42 : decode cX2_readLetter 42 = .ok (.iadd, 1) := by decide +kernel
theorem dX2_readLetter_43 : decode cX2_readLetter 43 = .ok (.iaload, 1) := by decide +kernel
theorem dX2_readLetter_44 : decode cX2_readLetter 44 = .ok (.istore 4, 2) := by decide +kernel
theorem dX2_readLetter_46 : decode cX2_readLetter 46 = .ok (.aload_n 0, 1) := by decide +kernel
theorem dX2_readLetter_47 : decode cX2_readLetter 47 = .ok (.getfield 16, 3) := by decide +kernel
theorem dX2_readLetter_50 : decode cX2_readLetter 50 = .ok (.iload 4, 2) := by decide +kernel
theorem dX2_readLetter_52 : decode cX2_readLetter 52 = .ok (.aaload, 1) := by decide +kernel
theorem dX2_readLetter_53 : decode cX2_readLetter 53 = .ok (.aload_n 1, 1) := by decide +kernel
theorem dX2_readLetter_54 : decode cX2_readLetter 54 = .ok (.invokevirtual 69, 3) := by decide +kernel
theorem dX2_readLetter_57 : decode cX2_readLetter 57 = .ok (.ireturn, 1) := by decide +kernel
theorem dX2_readMap_0 : decode cX2_readMap 0 = .ok (.aload_n 0, 1) := by decide +kernel
theorem dX2_readMap_1 : decode cX2_readMap 1 = .ok (.getfield 36, 3) := by decide +kernel
theorem dX2_readMap_4 : decode cX2_readMap 4 = .ok (.iconst 4, 1) := by decide +kernel
theorem dX2_readMap_5 : decode cX2_readMap 5 = .ok (.imul, 1) := by decide +kernel
theorem dX2_readMap_6 : decode cX2_readMap 6 = .ok (.istore_n 3, 1) := by decide +kernel
theorem dX2_readMap_7 : decode cX2_readMap 7 = .ok (.iconst 0, 1) := by decide +kernel
theorem dX2_readMap_8 : decode cX2_readMap 8 = .ok (.istore 4, 2) := by decide +kernel
theorem dX2_readMap_10 : decode cX2_readMap 10 = .ok (.iload 4, 2) := by decide +kernel
theorem dX2_readMap_12 : decode cX2_readMap 12 = .ok (.iload_n 3, 1) := by decide +kernel
theorem dX2_readMap_13 : decode cX2_readMap 13 = .ok (.if_icmp .ge 42, 3) := by decide +kernel
theorem dX2_readMap_16 : decode cX2_readMap 16 = .ok (.aload_n 0, 1) := by decide +kernel
theorem dX2_readMap_17 : decode cX2_readMap 17 = .ok (.getfield 24, 3) := by decide +kernel
theorem dX2_readMap_20 : decode cX2_readMap 20 = .ok (.iload 4, 2) := by decide +kernel
theorem dX2_readMap_22 : decode cX2_readMap 22 = .ok (.aload_n 1, 1) := by decide +kernel
theorem dX2_readMap_23 : decode cX2_readMap 23 = .ok (.iconst 2, 1) := by decide +kernel
theorem dX2_readMap_24 : decode cX2_readMap 24 = .ok (.invokevirtual 30, 3) := by decide +kernel
theorem dX2_readMap_27 : decode cX2_readMap 27 = .ok (.iastore, 1) := by decide +kernel
theorem dX2_readMap_28 : decode cX2_readMap 28 = .ok (.aload_n 0, 1) := by decide +kernel
theorem dX2_readMap_29 : decode cX2_readMap 29 = .ok (.getfield 24, 3) := by decide +kernel
theorem dX2_readMap_32 : decode cX2_readMap 32 = .ok (.iload 4, 2) := by decide +kernel
theorem dX2_readMap_34 : decode cX2_readMap 34 = .ok (.iaload, 1) := by decide +kernel
theorem dX2_readMap_35 : decode cX2_readMap 35 = .ok (.iload_n 2, 1) := by decide +kernel
theorem dX2_readMap_36 : decode cX2_readMap 36 = .ok (.if_icmp .lt 13, 3) := by decide +kernel
theorem dX2_readMap_39 : decode cX2_readMap 39 = .ok (.new 40, 3) := by decide +kernel
theorem dX2_readMap_42 : decode cX2_readMap 42 = .ok (.dup, 1) := by decide +kernel
theorem dX2_readMap_43 : decode cX2_readMap 43 = .ok (.ldc 77, 2) := by decide +kernel
theorem dX2_readMap_45 : decode cX2_readMap 45 = .ok (.invokespecial 44, 3) := by decide +kernel
theorem dX2_readMap_48 : decode cX2_readMap 48 = .ok (.athrow, 1) := by decide +kernel
theorem dX2_readMap_49 : decode cX2_readMap 49 = .ok (.iinc 4 1, 3) := by decide +kernel
theorem dX2_readMap_52 : decode cX2_readMap 52 = .ok (.goto (-42), 3) := by decide +kernel
theorem dX2_readMap_55 : decode cX2_readMap 55 = .ok (.aload_n 1, 1) := by decide +kernel
theorem dX2_readMap_56 : decode cX2_readMap 56 = .ok (.iconst 1, 1) := by decide +kernel
theorem dX2_readMap_57 : decode cX2_readMap 57 = .ok (.invokevirtual 30, 3) := by decide +kernel
theorem dX2_readMap_60 : decode cX2_readMap 60 = .ok (.iconst 1, 1) := by decide +kernel
theorem dX2_readMap_61 : decode cX2_readMap 61 = .ok (.if_icmp .ne 8, 3) := by decide +kernel
theorem dX2_readMap_64 : decode cX2_readMap 64 = .ok (.aload_n 0, 1) := by decide +kernel
theorem dX2_readMap_65 : decode cX2_readMap 65 = .ok (.iload_n 3, 1) := by decide +kernel
theorem dX2_readMap_66 : decode cX2_readMap 66 = .ok (.invokevirtual 79, 3) := by decide +kernel
theorem dX2_readMap_69 : decode cX2_readMap 69 = .ok (.return_, 1) := by decide +kernel
theorem dX2_replacePlaces_0 : decode cX2_replacePlaces 0 = .ok (.iconst 0, 1) := by decide +kernel
theorem dX2_replacePlaces_1 : decode cX2_replacePlaces 1 = .ok (.istore_n 2, 1) := by decide +kernel
theorem dX2_replacePlaces_2 : decode cX2_replacePlaces 2 = .ok (.iload_n 2, 1) := by decide +kernel
theorem dX2_replacePlaces_3 : decode cX2_replacePlaces 3 = .ok (.iconst 4, 1) := by decide +kernel
theorem dX2_replacePlaces_4 : decode cX2_replacePlaces 4 = .ok (.if_icmp .ge 16, 3) := by decide +kernel
theorem dX2_replacePlaces_7 : decode cX2_replacePlaces 7 = .ok (.aload_n 0, 1) := by decide +kernel
theorem dX2_replacePlaces_8 : decode cX2_replacePlaces 8 = .ok (.getfield 27, 3) := by decide +kernel
theorem dX2_replacePlaces_11 : decode cX2_replacePlaces 11 = .ok (.iload_n 2, 1) := by decide +kernel
theorem dX2_replacePlaces_12 : decode cX2_replacePlaces 12 = .ok (.iload_n 2, 1) := by decide +kernel
theorem dX2_replacePlaces_13 : decode cX2_replacePlaces 13 = .ok (.iastore, 1) := by decide +kernel
theorem dX2_replacePlaces_14 : decode cX2_replacePlaces 14 = .ok (.iinc 2 1, 3) := by decide +kernel
theorem dX2_replacePlaces_17 : decode cX2_replacePlaces 17 = .ok (.goto (-15), 3) := by decide +kernel
theorem dX2_replacePlaces_20 : decode cX2_replacePlaces 20 = .ok (.iconst 0, 1) := by decide +kernel
theorem dX2_replacePlaces_21 : decode cX2_replacePlaces 21 = .ok (.istore_n 2, 1) := by decide +kernel
theorem dX2_replacePlaces_22 : decode cX2_replacePlaces 22 = .ok (.iload_n 2, 1) := by decide +kernel
theorem dX2_replacePlaces_23 : decode cX2_replacePlaces 23 = .ok (.iload_n 1, 1) := by decide +kernel
theorem dX2_replacePlaces_24 : decode cX2_replacePlaces 24 = .ok (.if_icmp .ge 70, 3) := by decide +kernel
theorem dX2_replacePlaces_27 : decode cX2_replacePlaces 27 = .ok (.aload_n 0, 1) := by decide +kernel
theorem dX2_replacePlaces_28 : decode cX2_replacePlaces 28 = .ok (.getfield 24, 3) := by decide +kernel
theorem dX2_replacePlaces_31 : decode cX2_replacePlaces 31 = .ok (.iload_n 2, 1) := by decide +kernel
theorem dX2_replacePlaces_32 : decode cX2_replacePlaces 32 = .ok (.iaload, 1) := by decide +kernel
theorem dX2_replacePlaces_33 : decode cX2_replacePlaces 33 = .ok (.istore_n 3, 1) := by decide +kernel
theorem dX2_replacePlaces_34 : decode cX2_replacePlaces 34 = .ok (.aload_n 0, 1) := by decide +kernel
theorem dX2_replacePlaces_35 : decode cX2_replacePlaces 35 = .ok (.getfield 27, 3) := by decide +kernel
theorem dX2_replacePlaces_38 : decode cX2_replacePlaces 38 = .ok (.iload_n 3, 1) := by decide +kernel
theorem dX2_replacePlaces_39 : decode cX2_replacePlaces 39 = .ok (.iaload, 1) := by decide +kernel
theorem dX2_replacePlaces_40 : decode cX2_replacePlaces 40 = .ok (.istore 4, 2) := by decide +kernel
theorem dX2_replacePlaces_42 : decode cX2_replacePlaces 42 = .ok (.iload_n 3, 1) := by decide +kernel
theorem dX2_replacePlaces_43 : decode cX2_replacePlaces 43 = .ok (.istore 5, 2) := by decide +kernel
theorem dX2_replacePlaces_45 : decode cX2_replacePlaces 45 = .ok (.iload 5, 2) := by decide +kernel
theorem dX2_replacePlaces_47 : decode cX2_replacePlaces 47 = .ok (.ifCond .le 25, 3) := by decide +kernel
theorem dX2_replacePlaces_50 : decode cX2_replacePlaces 50 = .ok (.aload_n 0, 1) := by decide +kernel
theorem dX2_replacePlaces_51 : decode cX2_replacePlaces 51 = .ok (.getfield 27, 3) := by decide +kernel
theorem dX2_replacePlaces_54 : decode cX2_replacePlaces 54 = .ok (.iload 5, 2) := by decide +kernel
theorem dX2_replacePlaces_56 : decode cX2_replacePlaces 56 = .ok (.aload_n 0, 1) := by decide +kernel
theorem dX2_replacePlaces_57 : decode cX2_replacePlaces 57 = .ok (.getfield 27, 3) := by decide +kernel
theorem dX2_replacePlaces_60 : decode cX2_replacePlaces 60 = .ok (.iload 5, 2) := by decide +kernel
theorem dX2_replacePlaces_62 : decode cX2_replacePlaces 62 = .ok (.iconst 1, 1) := by decide +kernel
theorem dX2_replacePlaces_63 : decode cX2_replacePlaces 63 = .ok (.isub, 1) := by decide +kernel
theorem dX2_replacePlaces_64 : decode cX2_replacePlaces 64 = .ok (.iaload, 1) := by decide +kernel
theorem dX2_replacePlaces_65 : decode cX2_replacePlaces 65 = .ok (.iastore, 1) := by decide +kernel
theorem dX2_replacePlaces_66 : decode cX2_replacePlaces 66 = .ok (.iinc 5 (-1), 3) := by decide +kernel
theorem dX2_replacePlaces_69 : decode cX2_replacePlaces 69 = .ok (.goto (-24), 3) := by decide +kernel
theorem dX2_replacePlaces_72 : decode cX2_replacePlaces 72 = .ok (.aload_n 0, 1) := by decide +kernel
theorem dX2_replacePlaces_73 : decode cX2_replacePlaces 73 = .ok (.getfield 27, 3) := by decide +kernel
theorem dX2_replacePlaces_76 : decode cX2_replacePlaces 76 = .ok (.iconst 0, 1) := by decide +kernel
theorem dX2_replacePlaces_77 : decode cX2_replacePlaces 77 = .ok (.iload 4, 2) := by decide +kernel
theorem dX2_replacePlaces_79 : decode cX2_replacePlaces 79 = .ok (.iastore, 1) := by decide +kernel
theorem dX2_replacePlaces_80 : decode cX2_replacePlaces 80 = .ok (.aload_n 0, 1) := by decide +kernel
theorem dX2_replacePlaces_81 : decode cX2_replacePlaces 81 = .ok (.getfield 24, 3) := by decide +kernel
theorem dX2_replacePlaces_84 : decode cX2_replacePlaces 84 = .ok (.iload_n 2, 1) := by decide +kernel
theorem dX2_replacePlaces_85 : decode cX2_replacePlaces 85 = .ok (.iload 4, 2) := by decide +kernel
theorem dX2_replacePlaces_87 : decode cX2_replacePlaces 87 = .ok (.iastore, 1) := by decide +kernel
theorem dX2_replacePlaces_88 : decode cX2_replacePlaces 88 = .ok (.iinc 2 1, 3) := by decide +kernel
theorem dX2_replacePlaces_91 : decode cX2_replacePlaces 91 = .ok (.goto (-69), 3) := by decide +kernel
theorem dX2_replacePlaces_94 : decode cX2_replacePlaces 94 = .ok (.return_, 1) := by decide +kernel
theorem dX2_context_0 : decode cX2_context 0 = .ok (.iload_n 0, 1) := by decide +kernel
theorem dX2_context_1 : decode cX2_context 1 = .ok (.tableswitch 66 0 2 #[27, 31, 36], 27) := by decide +kernel
theorem dX2_context_28 : decode cX2_context 28 = .ok (.iload_n 1, 1) := by decide +kernel
theorem dX2_context_29 : decode cX2_context 29 = .ok (.iconst 4, 1) := by decide +kernel
theorem dX2_context_30 : decode cX2_context 30 = .ok (.irem, 1) := by decide +kernel
theorem dX2_context_31 : decode cX2_context 31 = .ok (.ireturn, 1) := by decide +kernel
theorem dX2_context_32 : decode cX2_context 32 = .ok (.iload_n 1, 1) := by decide +kernel
theorem dX2_context_33 : decode cX2_context 33 = .ok (.bipush 8, 2) := by decide +kernel
theorem dX2_context_35 : decode cX2_context 35 = .ok (.idiv, 1) := by decide +kernel
theorem dX2_context_36 : decode cX2_context 36 = .ok (.ireturn, 1) := by decide +kernel
theorem dX2_context_37 : decode cX2_context 37 = .ok (.iload_n 1, 1) := by decide +kernel
theorem dX2_context_38 : decode cX2_context 38 = .ok (.ifCond .ne 7, 3) := by decide +kernel
theorem dX2_context_41 : decode cX2_context 41 = .ok (.iconst 0, 1) := by decide +kernel
theorem dX2_context_42 : decode cX2_context 42 = .ok (.goto 24, 3) := by decide +kernel
theorem dX2_context_45 : decode cX2_context 45 = .ok (.iload_n 1, 1) := by decide +kernel
theorem dX2_context_46 : decode cX2_context 46 = .ok (.bipush 8, 2) := by decide +kernel
theorem dX2_context_48 : decode cX2_context 48 = .ok (.if_icmp .ge 7, 3) := by decide +kernel
theorem dX2_context_51 : decode cX2_context 51 = .ok (.iconst 1, 1) := by decide +kernel
theorem dX2_context_52 : decode cX2_context 52 = .ok (.goto 14, 3) := by decide +kernel
theorem dX2_context_55 : decode cX2_context 55 = .ok (.iload_n 1, 1) := by decide +kernel
theorem dX2_context_56 : decode cX2_context 56 = .ok (.bipush 20, 2) := by decide +kernel
theorem dX2_context_58 : decode cX2_context 58 = .ok (.if_icmp .ge 7, 3) := by decide +kernel
theorem dX2_context_61 : decode cX2_context 61 = .ok (.iconst 2, 1) := by decide +kernel
theorem dX2_context_62 : decode cX2_context 62 = .ok (.goto 4, 3) := by decide +kernel
theorem dX2_context_65 : decode cX2_context 65 = .ok (.iconst 3, 1) := by decide +kernel
theorem dX2_context_66 : decode cX2_context 66 = .ok (.ireturn, 1) := by decide +kernel
theorem dX2_context_67 : decode cX2_context 67 = .ok (.iconst 2, 1) := by decide +kernel
theorem dX2_context_68 : decode cX2_context 68 = .ok (.iload_n 1, 1) := by decide +kernel
theorem dX2_context_69 : decode cX2_context 69 = .ok (.bipush 16, 2) := by decide +kernel
theorem dX2_context_71 : decode cX2_context 71 = .ok (.idiv, 1) := by decide +kernel
theorem dX2_context_72 : decode cX2_context 72 = .ok (.imul, 1) := by decide +kernel
theorem dX2_context_73 : decode cX2_context 73 = .ok (.iload_n 2, 1) := by decide +kernel
theorem dX2_context_74 : decode cX2_context 74 = .ok (.bipush 16, 2) := by decide +kernel
theorem dX2_context_76 : decode cX2_context 76 = .ok (.idiv, 1) := by decide +kernel
theorem dX2_context_77 : decode cX2_context 77 = .ok (.iadd, 1) := by decide +kernel
theorem dX2_context_78 : decode cX2_context 78 = .ok (.ireturn, 1) := by decide +kernel
theorem dX3_init_0 : decode cX3_init 0 = .ok (.aload_n 0, 1) := by decide +kernel
theorem dX3_init_1 : decode cX3_init 1 = .ok (.invokespecial 3, 3) := by decide +kernel
theorem dX3_init_4 : decode cX3_init 4 = .ok (.aload_n 0, 1) := by decide +kernel
theorem dX3_init_5 : decode cX3_init 5 = .ok (.sipush 400, 3) := by decide +kernel
theorem dX3_init_8 : decode cX3_init 8 = .ok (.newarray .int, 2) := by decide +kernel
theorem dX3_init_10 : decode cX3_init 10 = .ok (.putfield 9, 3) := by decide +kernel
theorem dX3_init_13 : decode cX3_init 13 = .ok (.aload_n 0, 1) := by decide +kernel
theorem dX3_init_14 : decode cX3_init 14 = .ok (.getstatic 15, 3) := by decide +kernel
theorem dX3_init_17 : decode cX3_init 17 = .ok (.invokevirtual 18, 3) := by decide +kernel
theorem dX3_init_20 : decode cX3_init 20 = .ok (.checkcast 19, 3) := by decide +kernel
theorem dX3_init_23 : decode cX3_init 23 = .ok (.putfield 23, 3) := by decide +kernel
theorem dX3_init_26 : decode cX3_init 26 = .ok (.return_, 1) := by decide +kernel
theorem dX3_clear_0 : decode cX3_clear 0 = .ok (.aload_n 0, 1) := by decide +kernel
theorem dX3_clear_1 : decode cX3_clear 1 = .ok (.iconst 0, 1) := by decide +kernel
theorem dX3_clear_2 : decode cX3_clear 2 = .ok (.putfield 26, 3) := by decide +kernel
theorem dX3_clear_5 : decode cX3_clear 5 = .ok (.getstatic 15, 3) := by decide +kernel
theorem dX3_clear_8 : decode cX3_clear 8 = .ok (.iconst 0, 1) := by decide +kernel
theorem dX3_clear_9 : decode cX3_clear 9 = .ok (.aload_n 0, 1) := by decide +kernel
theorem dX3_clear_10 : decode cX3_clear 10 = .ok (.getfield 23, 3) := by decide +kernel
theorem dX3_clear_13 : decode cX3_clear 13 = .ok (.iconst 0, 1) := by decide +kernel
theorem dX3_clear_14 : decode cX3_clear 14 = .ok (.bipush 9, 2) := by decide +kernel
theorem dX3_clear_16 : decode cX3_clear 16 = .ok (.invokestatic 30, 3) := by decide +kernel
theorem dX3_clear_19 : decode cX3_clear 19 = .ok (.return_, 1) := by decide +kernel
theorem dX3_add_0 : decode cX3_add 0 = .ok (.aload_n 0, 1) := by decide +kernel
theorem dX3_add_1 : decode cX3_add 1 = .ok (.getfield 9, 3) := by decide +kernel
theorem dX3_add_4 : decode cX3_add 4 = .ok (.aload_n 0, 1) := by decide +kernel
theorem dX3_add_5 : decode cX3_add 5 = .ok (.getfield 26, 3) := by decide +kernel
theorem dX3_add_8 : decode cX3_add 8 = .ok (.iload_n 1, 1) := by decide +kernel
theorem dX3_add_9 : decode cX3_add 9 = .ok (.iastore, 1) := by decide +kernel
theorem dX3_add_10 : decode cX3_add 10 = .ok (.aload_n 0, 1) := by decide +kernel
theorem dX3_add_11 : decode cX3_add 11 = .ok (.dup, 1) := by decide +kernel
theorem dX3_add_12 : decode cX3_add 12 = .ok (.getfield 26, 3) := by decide +kernel
theorem dX3_add_15 : decode cX3_add 15 = .ok (.iconst 1, 1) := by decide +kernel
theorem dX3_add_16 : decode cX3_add 16 = .ok (.iadd, 1) := by decide +kernel
theorem dX3_add_17 : decode cX3_add 17 = .ok (.putfield 26, 3) := by decide +kernel
theorem dX3_add_20 : decode cX3_add 20 = .ok (.aload_n 0, 1) := by decide +kernel
theorem dX3_add_21 : decode cX3_add 21 = .ok (.getfield 23, 3) := by decide +kernel
theorem dX3_add_24 : decode cX3_add 24 = .ok (.iload_n 2, 1) := by decide +kernel
theorem dX3_add_25 : decode cX3_add 25 = .ok (.dup2, 1) := by decide +kernel
theorem dX3_add_26 : decode cX3_add 26 = .ok (.iaload, 1) := by decide +kernel
theorem dX3_add_27 : decode cX3_add 27 = .ok (.iconst 1, 1) := by decide +kernel
theorem dX3_add_28 : decode cX3_add 28 = .ok (.iadd, 1) := by decide +kernel
theorem dX3_add_29 : decode cX3_add 29 = .ok (.iastore, 1) := by decide +kernel
theorem dX3_add_30 : decode cX3_add 30 = .ok (.return_, 1) := by decide +kernel
theorem dX3_back_0 : decode cX3_back 0 = .ok (.iload_n 1, 1) := by decide +kernel
theorem dX3_back_1 : decode cX3_back 1 = .ok (.aload_n 0, 1) := by decide +kernel
theorem dX3_back_2 : decode cX3_back 2 = .ok (.getfield 26, 3) := by decide +kernel
theorem dX3_back_5 : decode cX3_back 5 = .ok (.if_icmp .gt 17, 3) := by decide +kernel
theorem dX3_back_8 : decode cX3_back 8 = .ok (.aload_n 0, 1) := by decide +kernel
theorem dX3_back_9 : decode cX3_back 9 = .ok (.getfield 9, 3) := by decide +kernel
theorem dX3_back_12 : decode cX3_back 12 = .ok (.aload_n 0, 1) := by decide +kernel
theorem dX3_back_13 : decode cX3_back 13 = .ok (.getfield 26, 3) := by decide +kernel
theorem dX3_back_16 : decode cX3_back 16 = .ok (.iload_n 1, 1) := by decide +kernel
theorem dX3_back_17 : decode cX3_back 17 = .ok (.isub, 1) := by decide +kernel
theorem dX3_back_18 : decode cX3_back 18 = .ok (.iaload, 1) := by decide +kernel
theorem dX3_back_19 : decode cX3_back 19 = .ok (.goto 4, 3) := by decide +kernel
theorem dX3_back_22 : decode cX3_back 22 = .ok (.iconst 0, 1) := by decide +kernel
theorem dX3_back_23 : decode cX3_back 23 = .ok (.ireturn, 1) := by decide +kernel
theorem dX3_remember_0 : decode cX3_remember 0 = .ok (.bipush 8, 2) := by decide +kernel
theorem dX3_remember_2 : decode cX3_remember 2 = .ok (.istore_n 2, 1) := by decide +kernel
theorem dX3_remember_3 : decode cX3_remember 3 = .ok (.iload_n 2, 1) := by decide +kernel
theorem dX3_remember_4 : decode cX3_remember 4 = .ok (.iconst 5, 1) := by decide +kernel
theorem dX3_remember_5 : decode cX3_remember 5 = .ok (.if_icmp .le 23, 3) := by decide +kernel
theorem dX3_remember_8 : decode cX3_remember 8 = .ok (.aload_n 0, 1) := by decide +kernel
theorem dX3_remember_9 : decode cX3_remember 9 = .ok (.getfield 23, 3) := by decide +kernel
theorem dX3_remember_12 : decode cX3_remember 12 = .ok (.iload_n 2, 1) := by decide +kernel
theorem dX3_remember_13 : decode cX3_remember 13 = .ok (.aload_n 0, 1) := by decide +kernel
theorem dX3_remember_14 : decode cX3_remember 14 = .ok (.getfield 23, 3) := by decide +kernel
theorem dX3_remember_17 : decode cX3_remember 17 = .ok (.iload_n 2, 1) := by decide +kernel
theorem dX3_remember_18 : decode cX3_remember 18 = .ok (.iconst 1, 1) := by decide +kernel
theorem dX3_remember_19 : decode cX3_remember 19 = .ok (.isub, 1) := by decide +kernel
theorem dX3_remember_20 : decode cX3_remember 20 = .ok (.iaload, 1) := by decide +kernel
theorem dX3_remember_21 : decode cX3_remember 21 = .ok (.iastore, 1) := by decide +kernel
theorem dX3_remember_22 : decode cX3_remember 22 = .ok (.iinc 2 (-1), 3) := by decide +kernel
theorem dX3_remember_25 : decode cX3_remember 25 = .ok (.goto (-22), 3) := by decide +kernel
theorem dX3_remember_28 : decode cX3_remember 28 = .ok (.aload_n 0, 1) := by decide +kernel
theorem dX3_remember_29 : decode cX3_remember 29 = .ok (.getfield 23, 3) := by decide +kernel
theorem dX3_remember_32 : decode cX3_remember 32 = .ok (.iconst 5, 1) := by decide +kernel
theorem dX3_remember_33 : decode cX3_remember 33 = .ok (.iload_n 1, 1) := by decide +kernel
theorem dX3_remember_34 : decode cX3_remember 34 = .ok (.iastore, 1) := by decide +kernel
theorem dX3_remember_35 : decode cX3_remember 35 = .ok (.return_, 1) := by decide +kernel
theorem dX4_init_0 : decode cX4_init 0 = .ok (.aload_n 0, 1) := by decide +kernel
theorem dX4_init_1 : decode cX4_init 1 = .ok (.invokespecial 3, 3) := by decide +kernel
theorem dX4_init_4 : decode cX4_init 4 = .ok (.aload_n 0, 1) := by decide +kernel
theorem dX4_init_5 : decode cX4_init 5 = .ok (.sipush 2000, 3) := by decide +kernel
theorem dX4_init_8 : decode cX4_init 8 = .ok (.newarray .boolean, 2) := by decide +kernel
theorem dX4_init_10 : decode cX4_init 10 = .ok (.putfield 9, 3) := by decide +kernel
theorem dX4_init_13 : decode cX4_init 13 = .ok (.return_, 1) := by decide +kernel
theorem dX4_append_0 : decode cX4_append 0 = .ok (.iconst 0, 1) := by decide +kernel
theorem dX4_append_1 : decode cX4_append 1 = .ok (.istore_n 3, 1) := by decide +kernel
theorem dX4_append_2 : decode cX4_append 2 = .ok (.iload_n 3, 1) := by decide +kernel
theorem dX4_append_3 : decode cX4_append 3 = .ok (.iload_n 2, 1) := by decide +kernel
theorem dX4_append_4 : decode cX4_append 4 = .ok (.if_icmp .ge 34, 3) := by decide +kernel
theorem dX4_append_7 : decode cX4_append 7 = .ok (.aload_n 0, 1) := by decide +kernel
theorem dX4_append_8 : decode cX4_append 8 = .ok (.getfield 9, 3) := by decide +kernel
theorem dX4_append_11 : decode cX4_append 11 = .ok (.aload_n 0, 1) := by decide +kernel
theorem dX4_append_12 : decode cX4_append 12 = .ok (.getfield 15, 3) := by decide +kernel
theorem dX4_append_15 : decode cX4_append 15 = .ok (.iload_n 3, 1) := by decide +kernel
theorem dX4_append_16 : decode cX4_append 16 = .ok (.iadd, 1) := by decide +kernel
theorem dX4_append_17 : decode cX4_append 17 = .ok (.iload_n 1, 1) := by decide +kernel
theorem dX4_append_18 : decode cX4_append 18 = .ok (.iload_n 3, 1) := by decide +kernel
theorem dX4_append_19 : decode cX4_append 19 = .ok (.ishr, 1) := by decide +kernel
theorem dX4_append_20 : decode cX4_append 20 = .ok (.iconst 1, 1) := by decide +kernel
theorem dX4_append_21 : decode cX4_append 21 = .ok (.iand, 1) := by decide +kernel
theorem dX4_append_22 : decode cX4_append 22 = .ok (.iconst 1, 1) := by decide +kernel
theorem dX4_append_23 : decode cX4_append 23 = .ok (.if_icmp .ne 7, 3) := by decide +kernel
theorem dX4_append_26 : decode cX4_append 26 = .ok (.iconst 1, 1) := by decide +kernel
theorem dX4_append_27 : decode cX4_append 27 = .ok (.goto 4, 3) := by decide +kernel
theorem dX4_append_30 : decode cX4_append 30 = .ok (.iconst 0, 1) := by decide +kernel
theorem dX4_append_31 : decode cX4_append 31 = .ok (.bastore, 1) := by decide +kernel
theorem dX4_append_32 : decode cX4_append 32 = .ok (.iinc 3 1, 3) := by decide +kernel
theorem dX4_append_35 : decode cX4_append 35 = .ok (.goto (-33), 3) := by decide +kernel
theorem dX4_append_38 : decode cX4_append 38 = .ok (.aload_n 0, 1) := by decide +kernel
theorem dX4_append_39 : decode cX4_append 39 = .ok (.dup, 1) := by decide +kernel
theorem dX4_append_40 : decode cX4_append 40 = .ok (.getfield 15, 3) := by decide +kernel
theorem dX4_append_43 : decode cX4_append 43 = .ok (.iload_n 2, 1) := by decide +kernel
theorem dX4_append_44 : decode cX4_append 44 = .ok (.iadd, 1) := by decide +kernel
theorem dX4_append_45 : decode cX4_append 45 = .ok (.putfield 15, 3) := by decide +kernel
theorem dX4_append_48 : decode cX4_append 48 = .ok (.return_, 1) := by decide +kernel
theorem dX4_readNumber_0 : decode cX4_readNumber 0 = .ok (.iload_n 1, 1) := by decide +kernel
theorem dX4_readNumber_1 : decode cX4_readNumber 1 = .ok (.aload_n 0, 1) := by decide +kernel
theorem dX4_readNumber_2 : decode cX4_readNumber 2 = .ok (.getfield 15, 3) := by decide +kernel
theorem dX4_readNumber_5 : decode cX4_readNumber 5 = .ok (.aload_n 0, 1) := by decide +kernel
theorem dX4_readNumber_6 : decode cX4_readNumber 6 = .ok (.getfield 19, 3) := by decide +kernel
theorem dX4_readNumber_9 : decode cX4_readNumber 9 = .ok (.isub, 1) := by decide +kernel
theorem dX4_readNumber_10 : decode cX4_readNumber 10 = .ok (.if_icmp .le 13, 3) := by decide +kernel
theorem dX4_readNumber_13 : decode cX4_readNumber 13 = .ok (.new 22, 3) := by decide +kernel
theorem dX4_readNumber_16 : decode cX4_readNumber 16 = .ok (.dup, 1) := by decide +kernel
theorem dX4_readNumber_17 : decode cX4_readNumber 17 = .ok (.ldc 24, 2) := by decide +kernel
theorem dX4_readNumber_19 : decode cX4_readNumber 19 = .ok (.invokespecial 26, 3) := by decide +kernel
theorem dX4_readNumber_22 : decode cX4_readNumber 22 = .ok (.athrow, 1) := by decide +kernel
theorem dX4_readNumber_23 : decode cX4_readNumber 23 = .ok (.iconst 0, 1) := by decide +kernel
theorem dX4_readNumber_24 : decode cX4_readNumber 24 = .ok (.istore_n 2, 1) := by decide +kernel
theorem dX4_readNumber_25 : decode cX4_readNumber 25 = .ok (.iconst 0, 1) := by decide +kernel
theorem dX4_readNumber_26 : decode cX4_readNumber 26 = .ok (.istore_n 3, 1) := by decide +kernel
theorem dX4_readNumber_27 : decode cX4_readNumber 27 = .ok (.iload_n 3, 1) := by decide +kernel
theorem dX4_readNumber_28 : decode cX4_readNumber 28 = .ok (.iload_n 1, 1) := by decide +kernel
theorem dX4_readNumber_29 : decode cX4_readNumber 29 = .ok (.if_icmp .ge 29, 3) := by decide +kernel
theorem dX4_readNumber_32 : decode cX4_readNumber 32 = .ok (.aload_n 0, 1) := by decide +kernel
theorem dX4_readNumber_33 : decode cX4_readNumber 33 = .ok (.getfield 9, 3) := by decide +kernel
theorem dX4_readNumber_36 : decode cX4_readNumber 36 = .ok (.aload_n 0, 1) := by decide +kernel
theorem dX4_readNumber_37 : decode cX4_readNumber 37 = .ok (.getfield 19, 3) := by decide +kernel
theorem dX4_readNumber_40 : decode cX4_readNumber 40 = .ok (.iload_n 3, 1) := by decide +kernel
theorem dX4_readNumber_41 : decode cX4_readNumber 41 = .ok (.iadd, 1) := by decide +kernel
theorem dX4_readNumber_42 : decode cX4_readNumber 42 = .ok (.baload, 1) := by decide +kernel
theorem dX4_readNumber_43 : decode cX4_readNumber 43 = .ok (.ifCond .eq 9, 3) := by decide +kernel
theorem dX4_readNumber_46 : decode cX4_readNumber 46 = .ok (.iload_n 2, 1) := by decide +kernel
theorem dX4_readNumber_47 : decode cX4_readNumber 47 = .ok (.iconst 1, 1) := by decide +kernel
theorem dX4_readNumber_48 : decode cX4_readNumber 48 = .ok (.iload_n 3, 1) := by decide +kernel
theorem dX4_readNumber_49 : decode cX4_readNumber 49 = .ok (.ishl, 1) := by decide +kernel
theorem dX4_readNumber_50 : decode cX4_readNumber 50 = .ok (.ior, 1) := by decide +kernel
theorem dX4_readNumber_51 : decode cX4_readNumber 51 = .ok (.istore_n 2, 1) := by decide +kernel
theorem dX4_readNumber_52 : decode cX4_readNumber 52 = .ok (.iinc 3 1, 3) := by decide +kernel
theorem dX4_readNumber_55 : decode cX4_readNumber 55 = .ok (.goto (-28), 3) := by decide +kernel
theorem dX4_readNumber_58 : decode cX4_readNumber 58 = .ok (.aload_n 0, 1) := by decide +kernel
theorem dX4_readNumber_59 : decode cX4_readNumber 59 = .ok (.dup, 1) := by decide +kernel
theorem dX4_readNumber_60 : decode cX4_readNumber 60 = .ok (.getfield 19, 3) := by decide +kernel
theorem dX4_readNumber_63 : decode cX4_readNumber 63 = .ok (.iload_n 1, 1) := by decide +kernel
theorem dX4_readNumber_64 : decode cX4_readNumber 64 = .ok (.iadd, 1) := by decide +kernel
theorem dX4_readNumber_65 : decode cX4_readNumber 65 = .ok (.putfield 19, 3) := by decide +kernel
theorem dX4_readNumber_68 : decode cX4_readNumber 68 = .ok (.iload_n 2, 1) := by decide +kernel
theorem dX4_readNumber_69 : decode cX4_readNumber 69 = .ok (.ireturn, 1) := by decide +kernel
theorem dX5_init_0 : decode cX5_init 0 = .ok (.aload_n 0, 1) := by decide +kernel
theorem dX5_init_1 : decode cX5_init 1 = .ok (.invokespecial 3, 3) := by decide +kernel
theorem dX5_init_4 : decode cX5_init 4 = .ok (.aload_n 0, 1) := by decide +kernel
theorem dX5_init_5 : decode cX5_init 5 = .ok (.new 9, 3) := by decide +kernel
theorem dX5_init_8 : decode cX5_init 8 = .ok (.dup, 1) := by decide +kernel
theorem dX5_init_9 : decode cX5_init 9 = .ok (.invokespecial 11, 3) := by decide +kernel
theorem dX5_init_12 : decode cX5_init 12 = .ok (.putfield 12, 3) := by decide +kernel
theorem dX5_init_15 : decode cX5_init 15 = .ok (.aload_n 0, 1) := by decide +kernel
theorem dX5_init_16 : decode cX5_init 16 = .ok (.new 16, 3) := by decide +kernel
theorem dX5_init_19 : decode cX5_init 19 = .ok (.dup, 1) := by decide +kernel
theorem dX5_init_20 : decode cX5_init 20 = .ok (.invokespecial 18, 3) := by decide +kernel
theorem dX5_init_23 : decode cX5_init 23 = .ok (.putfield 19, 3) := by decide +kernel
theorem dX5_init_26 : decode cX5_init 26 = .ok (.aload_n 0, 1) := by decide +kernel
theorem dX5_init_27 : decode cX5_init 27 = .ok (.new 23, 3) := by decide +kernel
theorem dX5_init_30 : decode cX5_init 30 = .ok (.dup, 1) := by decide +kernel
theorem dX5_init_31 : decode cX5_init 31 = .ok (.invokespecial 25, 3) := by decide +kernel
theorem dX5_init_34 : decode cX5_init 34 = .ok (.putfield 26, 3) := by decide +kernel
theorem dX5_init_37 : decode cX5_init 37 = .ok (.aload_n 0, 1) := by decide +kernel
theorem dX5_init_38 : decode cX5_init 38 = .ok (.new 23, 3) := by decide +kernel
theorem dX5_init_41 : decode cX5_init 41 = .ok (.dup, 1) := by decide +kernel
theorem dX5_init_42 : decode cX5_init 42 = .ok (.invokespecial 25, 3) := by decide +kernel
theorem dX5_init_45 : decode cX5_init 45 = .ok (.putfield 30, 3) := by decide +kernel
theorem dX5_init_48 : decode cX5_init 48 = .ok (.return_, 1) := by decide +kernel
theorem dX5_put_0 : decode cX5_put 0 = .ok (.iload_n 2, 1) := by decide +kernel
theorem dX5_put_1 : decode cX5_put 1 = .ok (.ifCond .lt 9, 3) := by decide +kernel
theorem dX5_put_4 : decode cX5_put 4 = .ok (.iload_n 2, 1) := by decide +kernel
theorem dX5_put_5 : decode cX5_put 5 = .ok (.bipush 24, 2) := by decide +kernel
theorem dX5_put_7 : decode cX5_put 7 = .ok (.if_icmp .le 13, 3) := by decide +kernel
theorem dX5_put_10 : decode cX5_put 10 = .ok (.new 33, 3) := by decide +kernel
theorem dX5_put_13 : decode cX5_put 13 = .ok (.dup, 1) := by decide +kernel
theorem dX5_put_14 : decode cX5_put 14 = .ok (.ldc 35, 2) := by decide +kernel
theorem dX5_put_16 : decode cX5_put 16 = .ok (.invokespecial 37, 3) := by decide +kernel
theorem dX5_put_19 : decode cX5_put 19 = .ok (.athrow, 1) := by decide +kernel
theorem dX5_put_20 : decode cX5_put 20 = .ok (.iload_n 1, 1) := by decide +kernel
theorem dX5_put_21 : decode cX5_put 21 = .ok (.ifCond .lt 9, 3) := by decide +kernel
theorem dX5_put_24 : decode cX5_put 24 = .ok (.iload_n 1, 1) := by decide +kernel
theorem dX5_put_25 : decode cX5_put 25 = .ok (.iload_n 2, 1) := by decide +kernel
theorem dX5_put_26 : decode cX5_put 26 = .ok (.ishr, 1) := by decide +kernel
theorem dX5_put_27 : decode cX5_put 27 = .ok (.ifCond .eq 13, 3) := by decide +kernel
theorem dX5_put_30 : decode cX5_put 30 = .ok (.new 33, 3) := by decide +kernel
theorem dX5_put_33 : decode cX5_put 33 = .ok (.dup, 1) := by decide +kernel
theorem dX5_put_34 : decode cX5_put 34 = .ok (.ldc 40, 2) := by decide +kernel
theorem dX5_put_36 : decode cX5_put 36 = .ok (.invokespecial 37, 3) := by decide +kernel
theorem dX5_put_39 : decode cX5_put 39 = .ok (.athrow, 1) := by decide +kernel
theorem dX5_put_40 : decode cX5_put 40 = .ok (.iload_n 2, 1) := by decide +kernel
theorem dX5_put_41 : decode cX5_put 41 = .ok (.sipush 2000, 3) := by decide +kernel
theorem dX5_put_44 : decode cX5_put 44 = .ok (.aload_n 0, 1) := by decide +kernel
theorem dX5_put_45 : decode cX5_put 45 = .ok (.getfield 12, 3) := by decide +kernel
theorem dX5_put_48 : decode cX5_put 48 = .ok (.getfield 42, 3) := by decide +kernel
theorem dX5_put_51 : decode cX5_put 51 = .ok (.isub, 1) := by decide +kernel
theorem dX5_put_52 : decode cX5_put 52 = .ok (.if_icmp .le 13, 3) := by decide +kernel
theorem dX5_put_55 : decode cX5_put 55 = .ok (.new 46, 3) := by decide +kernel
theorem dX5_put_58 : decode cX5_put 58 = .ok (.dup, 1) := by decide +kernel
theorem dX5_put_59 : decode cX5_put 59 = .ok (.ldc 48, 2) := by decide +kernel
theorem dX5_put_61 : decode cX5_put 61 = .ok (.invokespecial 50, 3) := by decide +kernel
theorem dX5_put_64 : decode cX5_put 64 = .ok (.athrow, 1) := by decide +kernel
theorem dX5_put_65 : decode cX5_put 65 = .ok (.aload_n 0, 1) := by decide +kernel
theorem dX5_put_66 : decode cX5_put 66 = .ok (.getfield 12, 3) := by decide +kernel
theorem dX5_put_69 : decode cX5_put 69 = .ok (.iload_n 1, 1) := by decide +kernel
theorem dX5_put_70 : decode cX5_put 70 = .ok (.iload_n 2, 1) := by decide +kernel
theorem dX5_put_71 : decode cX5_put 71 = .ok (.invokevirtual 51, 3) := by decide +kernel
theorem dX5_put_74 : decode cX5_put 74 = .ok (.aload_n 0, 1) := by decide +kernel
theorem dX5_put_75 : decode cX5_put 75 = .ok (.getfield 12, 3) := by decide +kernel
theorem dX5_put_78 : decode cX5_put 78 = .ok (.getfield 42, 3) := by decide +kernel
theorem dX5_put_81 : decode cX5_put 81 = .ok (.ireturn, 1) := by decide +kernel
theorem dX5_bit_0 : decode cX5_bit 0 = .ok (.iload_n 1, 1) := by decide +kernel
theorem dX5_bit_1 : decode cX5_bit 1 = .ok (.ifCond .lt 14, 3) := by decide +kernel
theorem dX5_bit_4 : decode cX5_bit 4 = .ok (.iload_n 1, 1) := by decide +kernel
theorem dX5_bit_5 : decode cX5_bit 5 = .ok (.aload_n 0, 1) := by decide +kernel
theorem dX5_bit_6 : decode cX5_bit 6 = .ok (.getfield 12, 3) := by decide +kernel
theorem dX5_bit_9 : decode cX5_bit 9 = .ok (.getfield 42, 3) := by decide +kernel
theorem dX5_bit_12 : decode cX5_bit 12 = .ok (.if_icmp .lt 13, 3) := by decide +kernel
theorem dX5_bit_15 : decode cX5_bit 15 = .ok (.new 55, 3) := by decide +kernel
theorem dX5_bit_18 : decode cX5_bit 18 = .ok (.dup, 1) := by decide +kernel
theorem dX5_bit_19 : decode cX5_bit 19 = .ok (.ldc 57, 2) := by decide +kernel
theorem dX5_bit_21 : decode cX5_bit 21 = .ok (.invokespecial 59, 3) := by decide +kernel
theorem dX5_bit_24 : decode cX5_bit 24 = .ok (.athrow, 1) := by decide +kernel
theorem dX5_bit_25 : decode cX5_bit 25 = .ok (.aload_n 0, 1) := by decide +kernel
theorem dX5_bit_26 : decode cX5_bit 26 = .ok (.getfield 12, 3) := by decide +kernel
theorem dX5_bit_29 : decode cX5_bit 29 = .ok (.getfield 60, 3) := by decide +kernel
theorem dX5_bit_32 : decode cX5_bit 32 = .ok (.iload_n 1, 1) := by decide +kernel
theorem dX5_bit_33 : decode cX5_bit 33 = .ok (.baload, 1) := by decide +kernel
theorem dX5_bit_34 : decode cX5_bit 34 = .ok (.ireturn, 1) := by decide +kernel
theorem dX5_flip_0 : decode cX5_flip 0 = .ok (.iload_n 1, 1) := by decide +kernel
theorem dX5_flip_1 : decode cX5_flip 1 = .ok (.ifCond .lt 14, 3) := by decide +kernel
theorem dX5_flip_4 : decode cX5_flip 4 = .ok (.iload_n 1, 1) := by decide +kernel
theorem dX5_flip_5 : decode cX5_flip 5 = .ok (.aload_n 0, 1) := by decide +kernel
theorem dX5_flip_6 : decode cX5_flip 6 = .ok (.getfield 12, 3) := by decide +kernel
theorem dX5_flip_9 : decode cX5_flip 9 = .ok (.getfield 42, 3) := by decide +kernel
theorem dX5_flip_12 : decode cX5_flip 12 = .ok (.if_icmp .lt 13, 3) := by decide +kernel
theorem dX5_flip_15 : decode cX5_flip 15 = .ok (.new 55, 3) := by decide +kernel
theorem dX5_flip_18 : decode cX5_flip 18 = .ok (.dup, 1) := by decide +kernel
theorem dX5_flip_19 : decode cX5_flip 19 = .ok (.ldc 57, 2) := by decide +kernel
theorem dX5_flip_21 : decode cX5_flip 21 = .ok (.invokespecial 59, 3) := by decide +kernel
theorem dX5_flip_24 : decode cX5_flip 24 = .ok (.athrow, 1) := by decide +kernel
theorem dX5_flip_25 : decode cX5_flip 25 = .ok (.aload_n 0, 1) := by decide +kernel
theorem dX5_flip_26 : decode cX5_flip 26 = .ok (.getfield 12, 3) := by decide +kernel
theorem dX5_flip_29 : decode cX5_flip 29 = .ok (.getfield 60, 3) := by decide +kernel
theorem dX5_flip_32 : decode cX5_flip 32 = .ok (.iload_n 1, 1) := by decide +kernel
theorem dX5_flip_33 : decode cX5_flip 33 = .ok (.aload_n 0, 1) := by decide +kernel
theorem dX5_flip_34 : decode cX5_flip 34 = .ok (.getfield 12, 3) := by decide +kernel
theorem dX5_flip_37 : decode cX5_flip 37 = .ok (.getfield 60, 3) := by decide +kernel
theorem dX5_flip_40 : decode cX5_flip 40 = .ok (.iload_n 1, 1) := by decide +kernel
theorem dX5_flip_41 : decode cX5_flip 41 = .ok (.baload, 1) := by decide +kernel
theorem dX5_flip_42 : decode cX5_flip 42 = .ok (.ifCond .ne 7, 3) := by decide +kernel
theorem dX5_flip_45 : decode cX5_flip 45 = .ok (.iconst 1, 1) := by decide +kernel
theorem dX5_flip_46 : decode cX5_flip 46 = .ok (.goto 4, 3) := by decide +kernel
theorem dX5_flip_49 : decode cX5_flip 49 = .ok (.iconst 0, 1) := by decide +kernel
theorem dX5_flip_50 : decode cX5_flip 50 = .ok (.bastore, 1) := by decide +kernel
theorem dX5_flip_51 : decode cX5_flip 51 = .ok (.return_, 1) := by decide +kernel
theorem dX5_cut_0 : decode cX5_cut 0 = .ok (.iload_n 1, 1) := by decide +kernel
theorem dX5_cut_1 : decode cX5_cut 1 = .ok (.ifCond .lt 14, 3) := by decide +kernel
theorem dX5_cut_4 : decode cX5_cut 4 = .ok (.iload_n 1, 1) := by decide +kernel
theorem dX5_cut_5 : decode cX5_cut 5 = .ok (.aload_n 0, 1) := by decide +kernel
theorem dX5_cut_6 : decode cX5_cut 6 = .ok (.getfield 12, 3) := by decide +kernel
theorem dX5_cut_9 : decode cX5_cut 9 = .ok (.getfield 42, 3) := by decide +kernel
theorem dX5_cut_12 : decode cX5_cut 12 = .ok (.if_icmp .le 13, 3) := by decide +kernel
theorem dX5_cut_15 : decode cX5_cut 15 = .ok (.new 33, 3) := by decide +kernel
theorem dX5_cut_18 : decode cX5_cut 18 = .ok (.dup, 1) := by decide +kernel
theorem dX5_cut_19 : decode cX5_cut 19 = .ok (.ldc 64, 2) := by decide +kernel
theorem dX5_cut_21 : decode cX5_cut 21 = .ok (.invokespecial 37, 3) := by decide +kernel
theorem dX5_cut_24 : decode cX5_cut 24 = .ok (.athrow, 1) := by decide +kernel
theorem dX5_cut_25 : decode cX5_cut 25 = .ok (.aload_n 0, 1) := by decide +kernel
theorem dX5_cut_26 : decode cX5_cut 26 = .ok (.getfield 12, 3) := by decide +kernel
theorem dX5_cut_29 : decode cX5_cut 29 = .ok (.getfield 42, 3) := by decide +kernel
theorem dX5_cut_32 : decode cX5_cut 32 = .ok (.iload_n 1, 1) := by decide +kernel
theorem dX5_cut_33 : decode cX5_cut 33 = .ok (.isub, 1) := by decide +kernel
theorem dX5_cut_34 : decode cX5_cut 34 = .ok (.istore_n 2, 1) := by decide +kernel
theorem dX5_cut_35 : decode cX5_cut 35 = .ok (.aload_n 0, 1) := by decide +kernel
theorem dX5_cut_36 : decode cX5_cut 36 = .ok (.getfield 12, 3) := by decide +kernel
theorem dX5_cut_39 : decode cX5_cut 39 = .ok (.iload_n 1, 1) := by decide +kernel
theorem dX5_cut_40 : decode cX5_cut 40 = .ok (.putfield 42, 3) := by decide +kernel
theorem dX5_cut_43 : decode cX5_cut 43 = .ok (.iload_n 2, 1) := by decide +kernel
theorem dX5_cut_44 : decode cX5_cut 44 = .ok (.ireturn, 1) := by decide +kernel
theorem dX5_unfold_0 : decode cX5_unfold 0 = .ok (.aload_n 0, 1) := by decide +kernel
theorem dX5_unfold_1 : decode cX5_unfold 1 = .ok (.getfield 12, 3) := by decide +kernel
theorem dX5_unfold_4 : decode cX5_unfold 4 = .ok (.iconst 0, 1) := by decide +kernel
theorem dX5_unfold_5 : decode cX5_unfold 5 = .ok (.putfield 66, 3) := by decide +kernel
theorem dX5_unfold_8 : decode cX5_unfold 8 = .ok (.aload_n 0, 1) := by decide +kernel
theorem dX5_unfold_9 : decode cX5_unfold 9 = .ok (.getfield 30, 3) := by decide +kernel
theorem dX5_unfold_12 : decode cX5_unfold 12 = .ok (.invokevirtual 69, 3) := by decide +kernel
theorem dX5_unfold_15 : decode cX5_unfold 15 = .ok (.iconst 0, 1) := by decide +kernel
theorem dX5_unfold_16 : decode cX5_unfold 16 = .ok (.istore_n 1, 1) := by decide +kernel
theorem dX5_unfold_17 : decode cX5_unfold 17 = .ok (.iconst 0, 1) := by decide +kernel
theorem dX5_unfold_18 : decode cX5_unfold 18 = .ok (.istore_n 2, 1) := by decide +kernel
theorem dX5_unfold_19 : decode cX5_unfold 19 = .ok (.iload_n 2, 1) := by decide +kernel
theorem dX5_unfold_20 : decode cX5_unfold 20 = .ok (.sipush 401, 3) := by decide +kernel
theorem dX5_unfold_23 : decode cX5_unfold 23 = .ok (.if_icmp .ge 29, 3) := by decide +kernel
theorem dX5_unfold_26 : decode cX5_unfold 26 = .ok (.iload_n 1, 1) := by decide +kernel
theorem dX5_unfold_27 : decode cX5_unfold 27 = .ok (.ifCond .ne 25, 3) := by decide +kernel
theorem dX5_unfold_30 : decode cX5_unfold 30 = .ok (.aload_n 0, 1) := by decide +kernel
theorem dX5_unfold_31 : decode cX5_unfold 31 = .ok (.getfield 19, 3) := by decide +kernel
theorem dX5_unfold_34 : decode cX5_unfold 34 = .ok (.aload_n 0, 1) := by decide +kernel
theorem dX5_unfold_35 : decode cX5_unfold 35 = .ok (.getfield 12, 3) := by decide +kernel
theorem dX5_unfold_38 : decode cX5_unfold 38 = .ok (.aload_n 0, 1) := by decide +kernel
theorem dX5_unfold_39 : decode cX5_unfold 39 = .ok (.getfield 30, 3) := by decide +kernel
theorem dX5_unfold_42 : decode cX5_unfold 42 = .ok (.invokevirtual 72, 3) := by decide +kernel
theorem dX5_unfold_45 : decode cX5_unfold 45 = .ok (.istore_n 1, 1) := by decide +kernel
theorem dX5_unfold_46 : decode cX5_unfold 46 = .ok (.iinc 2 1, 3) := by decide +kernel
theorem dX5_unfold_49 : decode cX5_unfold 49 = .ok (.goto (-30), 3) := by decide +kernel
theorem dX5_unfold_52 : decode cX5_unfold 52 = .ok (.aload_n 0, 1) := by decide +kernel
theorem dX5_unfold_53 : decode cX5_unfold 53 = .ok (.getfield 30, 3) := by decide +kernel
theorem dX5_unfold_56 : decode cX5_unfold 56 = .ok (.astore_n 2, 1) := by decide +kernel
theorem dX5_unfold_57 : decode cX5_unfold 57 = .ok (.aload_n 0, 1) := by decide +kernel
theorem dX5_unfold_58 : decode cX5_unfold 58 = .ok (.aload_n 0, 1) := by decide +kernel
theorem dX5_unfold_59 : decode cX5_unfold 59 = .ok (.getfield 26, 3) := by decide +kernel
theorem dX5_unfold_62 : decode cX5_unfold 62 = .ok (.putfield 30, 3) := by decide +kernel
theorem dX5_unfold_65 : decode cX5_unfold 65 = .ok (.aload_n 0, 1) := by decide +kernel
theorem dX5_unfold_66 : decode cX5_unfold 66 = .ok (.aload_n 2, 1) := by decide +kernel
theorem dX5_unfold_67 : decode cX5_unfold 67 = .ok (.putfield 26, 3) := by decide +kernel
theorem dX5_unfold_70 : decode cX5_unfold 70 = .ok (.aload_n 0, 1) := by decide +kernel
theorem dX5_unfold_71 : decode cX5_unfold 71 = .ok (.getfield 26, 3) := by decide +kernel
theorem dX5_unfold_74 : decode cX5_unfold 74 = .ok (.getfield 76, 3) := by decide +kernel
theorem dX5_unfold_77 : decode cX5_unfold 77 = .ok (.ireturn, 1) := by decide +kernel
theorem dX5_taken_0 : decode cX5_taken 0 = .ok (.aload_n 0, 1) := by decide +kernel
theorem dX5_taken_1 : decode cX5_taken 1 = .ok (.getfield 12, 3) := by decide +kernel
theorem dX5_taken_4 : decode cX5_taken 4 = .ok (.getfield 66, 3) := by decide +kernel
theorem dX5_taken_7 : decode cX5_taken 7 = .ok (.ireturn, 1) := by decide +kernel
theorem dX5_letter_0 : decode cX5_letter 0 = .ok (.iload_n 1, 1) := by decide +kernel
theorem dX5_letter_1 : decode cX5_letter 1 = .ok (.ifCond .lt 14, 3) := by decide +kernel
theorem dX5_letter_4 : decode cX5_letter 4 = .ok (.iload_n 1, 1) := by decide +kernel
theorem dX5_letter_5 : decode cX5_letter 5 = .ok (.aload_n 0, 1) := by decide +kernel
theorem dX5_letter_6 : decode cX5_letter 6 = .ok (.getfield 26, 3) := by decide +kernel
theorem dX5_letter_9 : decode cX5_letter 9 = .ok (.getfield 76, 3) := by decide +kernel
theorem dX5_letter_12 : decode cX5_letter 12 = .ok (.if_icmp .lt 13, 3) := by decide +kernel
theorem dX5_letter_15 : decode cX5_letter 15 = .ok (.new 55, 3) := by decide +kernel
theorem dX5_letter_18 : decode cX5_letter 18 = .ok (.dup, 1) := by decide +kernel
theorem dX5_letter_19 : decode cX5_letter 19 = .ok (.ldc 77, 2) := by decide +kernel
theorem dX5_letter_21 : decode cX5_letter 21 = .ok (.invokespecial 59, 3) := by decide +kernel
theorem dX5_letter_24 : decode cX5_letter 24 = .ok (.athrow, 1) := by decide +kernel
theorem dX5_letter_25 : decode cX5_letter 25 = .ok (.aload_n 0, 1) := by decide +kernel
theorem dX5_letter_26 : decode cX5_letter 26 = .ok (.getfield 26, 3) := by decide +kernel
theorem dX5_letter_29 : decode cX5_letter 29 = .ok (.getfield 79, 3) := by decide +kernel
theorem dX5_letter_32 : decode cX5_letter 32 = .ok (.iload_n 1, 1) := by decide +kernel
theorem dX5_letter_33 : decode cX5_letter 33 = .ok (.iaload, 1) := by decide +kernel
theorem dX5_letter_34 : decode cX5_letter 34 = .ok (.ireturn, 1) := by decide +kernel
theorem dX5_count_0 : decode cX5_count 0 = .ok (.iload_n 1, 1) := by decide +kernel
theorem dX5_count_1 : decode cX5_count 1 = .ok (.ifCond .lt 9, 3) := by decide +kernel
theorem dX5_count_4 : decode cX5_count 4 = .ok (.iload_n 1, 1) := by decide +kernel
theorem dX5_count_5 : decode cX5_count 5 = .ok (.bipush 9, 2) := by decide +kernel
theorem dX5_count_7 : decode cX5_count 7 = .ok (.if_icmp .lt 13, 3) := by decide +kernel
theorem dX5_count_10 : decode cX5_count 10 = .ok (.new 33, 3) := by decide +kernel
theorem dX5_count_13 : decode cX5_count 13 = .ok (.dup, 1) := by decide +kernel
theorem dX5_count_14 : decode cX5_count 14 = .ok (.ldc 83, 2) := by decide +kernel
theorem dX5_count_16 : decode cX5_count 16 = .ok (.invokespecial 37, 3) := by decide +kernel
theorem dX5_count_19 : decode cX5_count 19 = .ok (.athrow, 1) := by decide +kernel
theorem dX5_count_20 : decode cX5_count 20 = .ok (.aload_n 0, 1) := by decide +kernel
theorem dX5_count_21 : decode cX5_count 21 = .ok (.getfield 26, 3) := by decide +kernel
theorem dX5_count_24 : decode cX5_count 24 = .ok (.getfield 85, 3) := by decide +kernel
theorem dX5_count_27 : decode cX5_count 27 = .ok (.iload_n 1, 1) := by decide +kernel
theorem dX5_count_28 : decode cX5_count 28 = .ok (.iaload, 1) := by decide +kernel
theorem dX5_count_29 : decode cX5_count 29 = .ok (.ireturn, 1) := by decide +kernel
theorem dJ7_fill_53178_0 : decode cJ7_fill_53178 0 = .ok (.iconst 0, 1) := by decide +kernel
theorem dJ7_fill_53178_1 : decode cJ7_fill_53178 1 = .ok (.istore_n 2, 1) := by decide +kernel
theorem dJ7_fill_53178_2 : decode cJ7_fill_53178 2 = .ok (.aload_n 0, 1) := by decide +kernel
theorem dJ7_fill_53178_3 : decode cJ7_fill_53178 3 = .ok (.arraylength, 1) := by decide +kernel
theorem dJ7_fill_53178_4 : decode cJ7_fill_53178 4 = .ok (.istore_n 3, 1) := by decide +kernel
theorem dJ7_fill_53178_5 : decode cJ7_fill_53178 5 = .ok (.iload_n 2, 1) := by decide +kernel
theorem dJ7_fill_53178_6 : decode cJ7_fill_53178 6 = .ok (.iload_n 3, 1) := by decide +kernel
theorem dJ7_fill_53178_7 : decode cJ7_fill_53178 7 = .ok (.if_icmp .ge 13, 3) := by decide +kernel
theorem dJ7_fill_53178_10 : decode cJ7_fill_53178 10 = .ok (.aload_n 0, 1) := by decide +kernel
theorem dJ7_fill_53178_11 : decode cJ7_fill_53178 11 = .ok (.iload_n 2, 1) := by decide +kernel
theorem dJ7_fill_53178_12 : decode cJ7_fill_53178 12 = .ok (.iload_n 1, 1) := by decide +kernel
theorem dJ7_fill_53178_13 : decode cJ7_fill_53178 13 = .ok (.iastore, 1) := by decide +kernel
theorem dJ7_fill_53178_14 : decode cJ7_fill_53178 14 = .ok (.iinc 2 1, 3) := by decide +kernel
theorem dJ7_fill_53178_17 : decode cJ7_fill_53178 17 = .ok (.goto (-12), 3) := by decide +kernel
theorem dJ7_fill_53178_20 : decode cJ7_fill_53178 20 = .ok (.return_, 1) := by decide +kernel
theorem dL_put_0 : decode cL_put 0 = .ok (.aload_n 3, 1) := by decide +kernel
theorem dL_put_1 : decode cL_put 1 = .ok (.iconst 0, 1) := by decide +kernel
theorem dL_put_2 : decode cL_put 2 = .ok (.aload_n 0, 1) := by decide +kernel
theorem dL_put_3 : decode cL_put 3 = .ok (.iload_n 1, 1) := by decide +kernel
theorem dL_put_4 : decode cL_put 4 = .ok (.iload_n 2, 1) := by decide +kernel
theorem dL_put_5 : decode cL_put 5 = .ok (.invokevirtual 7, 3) := by decide +kernel
theorem dL_put_8 : decode cL_put 8 = .ok (.i2l, 1) := by decide +kernel
theorem dL_put_9 : decode cL_put 9 = .ok (.lastore, 1) := by decide +kernel
theorem dL_put_10 : decode cL_put 10 = .ok (.goto 11, 3) := by decide +kernel
theorem dL_put_13 : decode cL_put 13 = .ok (.astore 4, 2) := by decide +kernel
theorem dL_put_15 : decode cL_put 15 = .ok (.iconst 1, 1) := by decide +kernel
theorem dL_put_16 : decode cL_put 16 = .ok (.ireturn, 1) := by decide +kernel
theorem dL_put_17 : decode cL_put 17 = .ok (.astore 4, 2) := by decide +kernel
theorem dL_put_19 : decode cL_put 19 = .ok (.iconst 2, 1) := by decide +kernel
theorem dL_put_20 : decode cL_put 20 = .ok (.ireturn, 1) := by decide +kernel
theorem dL_put_21 : decode cL_put 21 = .ok (.iconst 0, 1) := by decide +kernel
theorem dL_put_22 : decode cL_put 22 = .ok (.ireturn, 1) := by decide +kernel
theorem dL_bit_0 : decode cL_bit 0 = .ok (.aload_n 2, 1) := by decide +kernel
theorem dL_bit_1 : decode cL_bit 1 = .ok (.iconst 0, 1) := by decide +kernel
theorem dL_bit_2 : decode cL_bit 2 = .ok (.aload_n 0, 1) := by decide +kernel
theorem dL_bit_3 : decode cL_bit 3 = .ok (.iload_n 1, 1) := by decide +kernel
theorem dL_bit_4 : decode cL_bit 4 = .ok (.invokevirtual 17, 3) := by decide +kernel
theorem dL_bit_7 : decode cL_bit 7 = .ok (.ifCond .eq 7, 3) := by decide +kernel
theorem dL_bit_10 : decode cL_bit 10 = .ok (.lconst 1, 1) := by decide +kernel
theorem dL_bit_11 : decode cL_bit 11 = .ok (.goto 4, 3) := by decide +kernel
theorem dL_bit_14 : decode cL_bit 14 = .ok (.lconst 0, 1) := by decide +kernel
theorem dL_bit_15 : decode cL_bit 15 = .ok (.lastore, 1) := by decide +kernel
theorem dL_bit_16 : decode cL_bit 16 = .ok (.goto 6, 3) := by decide +kernel
theorem dL_bit_19 : decode cL_bit 19 = .ok (.astore_n 3, 1) := by decide +kernel
theorem dL_bit_20 : decode cL_bit 20 = .ok (.iconst 1, 1) := by decide +kernel
theorem dL_bit_21 : decode cL_bit 21 = .ok (.ireturn, 1) := by decide +kernel
theorem dL_bit_22 : decode cL_bit 22 = .ok (.iconst 0, 1) := by decide +kernel
theorem dL_bit_23 : decode cL_bit 23 = .ok (.ireturn, 1) := by decide +kernel
theorem dL_flip_0 : decode cL_flip 0 = .ok (.aload_n 0, 1) := by decide +kernel
theorem dL_flip_1 : decode cL_flip 1 = .ok (.iload_n 1, 1) := by decide +kernel
theorem dL_flip_2 : decode cL_flip 2 = .ok (.invokevirtual 23, 3) := by decide +kernel
theorem dL_flip_5 : decode cL_flip 5 = .ok (.goto 6, 3) := by decide +kernel
theorem dL_flip_8 : decode cL_flip 8 = .ok (.astore_n 2, 1) := by decide +kernel
theorem dL_flip_9 : decode cL_flip 9 = .ok (.iconst 1, 1) := by decide +kernel
theorem dL_flip_10 : decode cL_flip 10 = .ok (.ireturn, 1) := by decide +kernel
theorem dL_flip_11 : decode cL_flip 11 = .ok (.iconst 0, 1) := by decide +kernel
theorem dL_flip_12 : decode cL_flip 12 = .ok (.ireturn, 1) := by decide +kernel
theorem dL_cut_0 : decode cL_cut 0 = .ok (.aload_n 2, 1) := by decide +kernel
theorem dL_cut_1 : decode cL_cut 1 = .ok (.iconst 0, 1) := by decide +kernel
theorem dL_cut_2 : decode cL_cut 2 = .ok (.aload_n 0, 1) := by decide +kernel
theorem dL_cut_3 : decode cL_cut 3 = .ok (.iload_n 1, 1) := by decide +kernel
theorem dL_cut_4 : decode cL_cut 4 = .ok (.invokevirtual 27, 3) := by decide +kernel
theorem dL_cut_7 : decode cL_cut 7 = .ok (.i2l, 1) := by decide +kernel
theorem dL_cut_8 : decode cL_cut 8 = .ok (.lastore, 1) := by decide +kernel
theorem dL_cut_9 : decode cL_cut 9 = .ok (.goto 6, 3) := by decide +kernel
theorem dL_cut_12 : decode cL_cut 12 = .ok (.astore_n 3, 1) := by decide +kernel
theorem dL_cut_13 : decode cL_cut 13 = .ok (.iconst 1, 1) := by decide +kernel
theorem dL_cut_14 : decode cL_cut 14 = .ok (.ireturn, 1) := by decide +kernel
theorem dL_cut_15 : decode cL_cut 15 = .ok (.iconst 0, 1) := by decide +kernel
theorem dL_cut_16 : decode cL_cut 16 = .ok (.ireturn, 1) := by decide +kernel
theorem dL_unfold_0 : decode cL_unfold 0 = .ok (.aload_n 1, 1) := by decide +kernel
theorem dL_unfold_1 : decode cL_unfold 1 = .ok (.iconst 0, 1) := by decide +kernel
theorem dL_unfold_2 : decode cL_unfold 2 = .ok (.aload_n 0, 1) := by decide +kernel
theorem dL_unfold_3 : decode cL_unfold 3 = .ok (.invokevirtual 31, 3) := by decide +kernel
theorem dL_unfold_6 : decode cL_unfold 6 = .ok (.i2l, 1) := by decide +kernel
theorem dL_unfold_7 : decode cL_unfold 7 = .ok (.lastore, 1) := by decide +kernel
theorem dL_unfold_8 : decode cL_unfold 8 = .ok (.goto 6, 3) := by decide +kernel
theorem dL_unfold_11 : decode cL_unfold 11 = .ok (.astore_n 2, 1) := by decide +kernel
theorem dL_unfold_12 : decode cL_unfold 12 = .ok (.iconst 1, 1) := by decide +kernel
theorem dL_unfold_13 : decode cL_unfold 13 = .ok (.ireturn, 1) := by decide +kernel
theorem dL_unfold_14 : decode cL_unfold 14 = .ok (.iconst 0, 1) := by decide +kernel
theorem dL_unfold_15 : decode cL_unfold 15 = .ok (.ireturn, 1) := by decide +kernel
theorem dL_letter_0 : decode cL_letter 0 = .ok (.aload_n 2, 1) := by decide +kernel
theorem dL_letter_1 : decode cL_letter 1 = .ok (.iconst 0, 1) := by decide +kernel
theorem dL_letter_2 : decode cL_letter 2 = .ok (.aload_n 0, 1) := by decide +kernel
theorem dL_letter_3 : decode cL_letter 3 = .ok (.iload_n 1, 1) := by decide +kernel
theorem dL_letter_4 : decode cL_letter 4 = .ok (.invokevirtual 35, 3) := by decide +kernel
theorem dL_letter_7 : decode cL_letter 7 = .ok (.i2l, 1) := by decide +kernel
theorem dL_letter_8 : decode cL_letter 8 = .ok (.lastore, 1) := by decide +kernel
theorem dL_letter_9 : decode cL_letter 9 = .ok (.goto 6, 3) := by decide +kernel
theorem dL_letter_12 : decode cL_letter 12 = .ok (.astore_n 3, 1) := by decide +kernel
theorem dL_letter_13 : decode cL_letter 13 = .ok (.iconst 1, 1) := by decide +kernel
theorem dL_letter_14 : decode cL_letter 14 = .ok (.ireturn, 1) := by decide +kernel
theorem dL_letter_15 : decode cL_letter 15 = .ok (.iconst 0, 1) := by decide +kernel
theorem dL_letter_16 : decode cL_letter 16 = .ok (.ireturn, 1) := by decide +kernel
theorem dL_count_0 : decode cL_count 0 = .ok (.aload_n 2, 1) := by decide +kernel
theorem dL_count_1 : decode cL_count 1 = .ok (.iconst 0, 1) := by decide +kernel
theorem dL_count_2 : decode cL_count 2 = .ok (.aload_n 0, 1) := by decide +kernel
theorem dL_count_3 : decode cL_count 3 = .ok (.iload_n 1, 1) := by decide +kernel
theorem dL_count_4 : decode cL_count 4 = .ok (.invokevirtual 38, 3) := by decide +kernel
theorem dL_count_7 : decode cL_count 7 = .ok (.i2l, 1) := by decide +kernel
theorem dL_count_8 : decode cL_count 8 = .ok (.lastore, 1) := by decide +kernel
theorem dL_count_9 : decode cL_count 9 = .ok (.goto 6, 3) := by decide +kernel
theorem dL_count_12 : decode cL_count 12 = .ok (.astore_n 3, 1) := by decide +kernel
theorem dL_count_13 : decode cL_count 13 = .ok (.iconst 1, 1) := by decide +kernel
theorem dL_count_14 : decode cL_count 14 = .ok (.ireturn, 1) := by decide +kernel
theorem dL_count_15 : decode cL_count 15 = .ok (.iconst 0, 1) := by decide +kernel
theorem dL_count_16 : decode cL_count 16 = .ok (.ireturn, 1) := by decide +kernel
theorem dL_law_0 : decode cL_law 0 = .ok (.new 8, 3) := by decide +kernel
theorem dL_law_3 : decode cL_law 3 = .ok (.dup, 1) := by decide +kernel
theorem dL_law_4 : decode cL_law 4 = .ok (.invokespecial 41, 3) := by decide +kernel
theorem dL_law_7 : decode cL_law 7 = .ok (.astore_n 1, 1) := by decide +kernel
theorem dL_law_8 : decode cL_law 8 = .ok (.new 42, 3) := by decide +kernel
theorem dL_law_11 : decode cL_law 11 = .ok (.dup, 1) := by decide +kernel
theorem dL_law_12 : decode cL_law 12 = .ok (.invokespecial 44, 3) := by decide +kernel
theorem dL_law_15 : decode cL_law 15 = .ok (.astore_n 2, 1) := by decide +kernel
theorem dL_law_16 : decode cL_law 16 = .ok (.iconst 1, 1) := by decide +kernel
theorem dL_law_17 : decode cL_law 17 = .ok (.newarray .long, 2) := by decide +kernel
theorem dL_law_19 : decode cL_law 19 = .ok (.astore_n 3, 1) := by decide +kernel
theorem dL_law_20 : decode cL_law 20 = .ok (.iconst 0, 1) := by decide +kernel
theorem dL_law_21 : decode cL_law 21 = .ok (.istore 4, 2) := by decide +kernel
theorem dL_law_23 : decode cL_law 23 = .ok (.iload 4, 2) := by decide +kernel
theorem dL_law_25 : decode cL_law 25 = .ok (.aload_n 0, 1) := by decide +kernel
theorem dL_law_26 : decode cL_law 26 = .ok (.arraylength, 1) := by decide +kernel
theorem dL_law_27 : decode cL_law 27 = .ok (.iconst 3, 1) := by decide +kernel
theorem dL_law_28 : decode cL_law 28 = .ok (.isub, 1) := by decide +kernel
theorem dL_law_29 : decode cL_law 29 = .ok (.if_icmp .gt 453, 3) := by decide +kernel
theorem dL_law_32 : decode cL_law 32 = .ok (.aload_n 0, 1) := by decide +kernel
theorem dL_law_33 : decode cL_law 33 = .ok (.iload 4, 2) := by decide +kernel
theorem dL_law_35 : decode cL_law 35 = .ok (.iaload, 1) := by decide +kernel
theorem dL_law_36 : decode cL_law 36 = .ok (.bipush 7, 2) := by decide +kernel
theorem dL_law_38 : decode cL_law 38 = .ok (.iand, 1) := by decide +kernel
theorem dL_law_39 : decode cL_law 39 = .ok (.tableswitch 437 0 7 #[45, 113, 176, 212, 268, 312, 325, 381], 45) := by decide +kernel
theorem dL_law_84 : decode cL_law 84 = .ok (.aload_n 1, 1) := by decide +kernel
theorem dL_law_85 : decode cL_law 85 = .ok (.aload_n 0, 1) := by decide +kernel
theorem dL_law_86 : decode cL_law 86 = .ok (.iload 4, 2) := by decide +kernel
theorem dL_law_88 : decode cL_law 88 = .ok (.iconst 1, 1) := by decide +kernel
theorem dL_law_89 : decode cL_law 89 = .ok (.iadd, 1) := by decide +kernel
theorem dL_law_90 : decode cL_law 90 = .ok (.iaload, 1) := by decide +kernel
theorem dL_law_91 : decode cL_law 91 = .ok (.aload_n 0, 1) := by decide +kernel
theorem dL_law_92 : decode cL_law 92 = .ok (.iload 4, 2) := by decide +kernel
theorem dL_law_94 : decode cL_law 94 = .ok (.iconst 2, 1) := by decide +kernel
theorem dL_law_95 : decode cL_law 95 = .ok (.iadd, 1) := by decide +kernel
theorem dL_law_96 : decode cL_law 96 = .ok (.iaload, 1) := by decide +kernel
theorem dL_law_97 : decode cL_law 97 = .ok (.aload_n 3, 1) := by decide +kernel
theorem dL_law_98 : decode cL_law 98 = .ok (.invokestatic 45, 3) := by decide +kernel
theorem dL_law_101 : decode cL_law 101 = .ok (.istore 5, 2) := by decide +kernel
theorem dL_law_103 : decode cL_law 103 = .ok (.aload_n 2, 1) := by decide +kernel
theorem dL_law_104 : decode cL_law 104 = .ok (.aload_n 0, 1) := by decide +kernel
theorem dL_law_105 : decode cL_law 105 = .ok (.iload 4, 2) := by decide +kernel
theorem dL_law_107 : decode cL_law 107 = .ok (.iconst 1, 1) := by decide +kernel
theorem dL_law_108 : decode cL_law 108 = .ok (.iadd, 1) := by decide +kernel
theorem dL_law_109 : decode cL_law 109 = .ok (.iaload, 1) := by decide +kernel
theorem dL_law_110 : decode cL_law 110 = .ok (.aload_n 0, 1) := by decide +kernel
theorem dL_law_111 : decode cL_law 111 = .ok (.iload 4, 2) := by decide +kernel
theorem dL_law_113 : decode cL_law 113 = .ok (.iconst 2, 1) := by decide +kernel
theorem dL_law_114 : decode cL_law 114 = .ok (.iadd, 1) := by decide +kernel
theorem dL_law_115 : decode cL_law 115 = .ok (.iaload, 1) := by decide +kernel
theorem dL_law_116 : decode cL_law 116 = .ok (.invokevirtual 50, 3) := by decide +kernel
theorem dL_law_119 : decode cL_law 119 = .ok (.istore 6, 2) := by decide +kernel
theorem dL_law_121 : decode cL_law 121 = .ok (.aload_n 2, 1) := by decide +kernel
theorem dL_law_122 : decode cL_law 122 = .ok (.invokevirtual 51, 3) := by decide +kernel
theorem dL_law_125 : decode cL_law 125 = .ok (.iload 5, 2) := by decide +kernel
theorem dL_law_127 : decode cL_law 127 = .ok (.if_icmp .eq 5, 3) := by decide +kernel
theorem dL_law_130 : decode cL_law 130 = .ok (.iconst 0, 1) := by decide +kernel
theorem dL_law_131 : decode cL_law 131 = .ok (.ireturn, 1) := by decide +kernel
theorem dL_law_132 : decode cL_law 132 = .ok (.iload 5, 2) := by decide +kernel
theorem dL_law_134 : decode cL_law 134 = .ok (.ifCond .ne 15, 3) := by decide +kernel
theorem dL_law_137 : decode cL_law 137 = .ok (.aload_n 3, 1) := by decide +kernel
theorem dL_law_138 : decode cL_law 138 = .ok (.iconst 0, 1) := by decide +kernel
theorem dL_law_139 : decode cL_law 139 = .ok (.laload, 1) := by decide +kernel
theorem dL_law_140 : decode cL_law 140 = .ok (.iload 6, 2) := by decide +kernel
theorem dL_law_142 : decode cL_law 142 = .ok (.i2l, 1) := by decide +kernel
theorem dL_law_143 : decode cL_law 143 = .ok (.lcmp, 1) := by decide +kernel
theorem dL_law_144 : decode cL_law 144 = .ok (.ifCond .eq 5, 3) := by decide +kernel
theorem dL_law_147 : decode cL_law 147 = .ok (.iconst 0, 1) := by decide +kernel
theorem dL_law_148 : decode cL_law 148 = .ok (.ireturn, 1) := by decide +kernel
theorem dL_law_149 : decode cL_law 149 = .ok (.goto 327, 3) := by decide +kernel
theorem dL_law_152 : decode cL_law 152 = .ok (.aload_n 1, 1) := by decide +kernel
theorem dL_law_153 : decode cL_law 153 = .ok (.aload_n 0, 1) := by decide +kernel
theorem dL_law_154 : decode cL_law 154 = .ok (.iload 4, 2) := by decide +kernel
theorem dL_law_156 : decode cL_law 156 = .ok (.iconst 1, 1) := by decide +kernel
theorem dL_law_157 : decode cL_law 157 = .ok (.iadd, 1) := by decide +kernel
theorem dL_law_158 : decode cL_law 158 = .ok (.iaload, 1) := by decide +kernel
theorem dL_law_159 : decode cL_law 159 = .ok (.aload_n 3, 1) := by decide +kernel
theorem dL_law_160 : decode cL_law 160 = .ok (.invokestatic 54, 3) := by decide +kernel
theorem dL_law_163 : decode cL_law 163 = .ok (.istore 5, 2) := by decide +kernel
theorem dL_law_165 : decode cL_law 165 = .ok (.aload_n 2, 1) := by decide +kernel
theorem dL_law_166 : decode cL_law 166 = .ok (.aload_n 0, 1) := by decide +kernel
theorem dL_law_167 : decode cL_law 167 = .ok (.iload 4, 2) := by decide +kernel
theorem dL_law_169 : decode cL_law 169 = .ok (.iconst 1, 1) := by decide +kernel
theorem dL_law_170 : decode cL_law 170 = .ok (.iadd, 1) := by decide +kernel
theorem dL_law_171 : decode cL_law 171 = .ok (.iaload, 1) := by decide +kernel
theorem dL_law_172 : decode cL_law 172 = .ok (.invokevirtual 57, 3) := by decide +kernel
theorem dL_law_175 : decode cL_law 175 = .ok (.istore 6, 2) := by decide +kernel
theorem dL_law_177 : decode cL_law 177 = .ok (.aload_n 2, 1) := by decide +kernel
theorem dL_law_178 : decode cL_law 178 = .ok (.invokevirtual 51, 3) := by decide +kernel
theorem dL_law_181 : decode cL_law 181 = .ok (.iload 5, 2) := by decide +kernel
theorem dL_law_183 : decode cL_law 183 = .ok (.if_icmp .eq 5, 3) := by decide +kernel
theorem dL_law_186 : decode cL_law 186 = .ok (.iconst 0, 1) := by decide +kernel
theorem dL_law_187 : decode cL_law 187 = .ok (.ireturn, 1) := by decide +kernel
theorem dL_law_188 : decode cL_law 188 = .ok (.iload 5, 2) := by decide +kernel
theorem dL_law_190 : decode cL_law 190 = .ok (.ifCond .ne 22, 3) := by decide +kernel
theorem dL_law_193 : decode cL_law 193 = .ok (.aload_n 3, 1) := by decide +kernel
theorem dL_law_194 : decode cL_law 194 = .ok (.iconst 0, 1) := by decide +kernel
theorem dL_law_195 : decode cL_law 195 = .ok (.laload, 1) := by decide +kernel
theorem dL_law_196 : decode cL_law 196 = .ok (.iload 6, 2) := by decide +kernel
theorem dL_law_198 : decode cL_law 198 = .ok (.ifCond .eq 7, 3) := by decide +kernel
theorem dL_law_201 : decode cL_law 201 = .ok (.lconst 1, 1) := by decide +kernel
theorem dL_law_202 : decode cL_law 202 = .ok (.goto 4, 3) := by decide +kernel
theorem dL_law_205 : decode cL_law 205 = .ok (.lconst 0, 1) := by decide +kernel
theorem dL_law_206 : decode cL_law 206 = .ok (.lcmp, 1) := by decide +kernel
theorem dL_law_207 : decode cL_law 207 = .ok (.ifCond .eq 5, 3) := by decide +kernel
theorem dL_law_210 : decode cL_law 210 = .ok (.iconst 0, 1) := by decide +kernel
theorem dL_law_211 : decode cL_law 211 = .ok (.ireturn, 1) := by decide +kernel
theorem dL_law_212 : decode cL_law 212 = .ok (.goto 264, 3) := by decide +kernel
theorem dL_law_215 : decode cL_law 215 = .ok (.aload_n 1, 1) := by decide +kernel
theorem dL_law_216 : decode cL_law 216 = .ok (.aload_n 0, 1) := by decide +kernel
theorem dL_law_217 : decode cL_law 217 = .ok (.iload 4, 2) := by decide +kernel
theorem dL_law_219 : decode cL_law 219 = .ok (.iconst 1, 1) := by decide +kernel
theorem dL_law_220 : decode cL_law 220 = .ok (.iadd, 1) := by decide +kernel
theorem dL_law_221 : decode cL_law 221 = .ok (.iaload, 1) := by decide +kernel
theorem dL_law_222 : decode cL_law 222 = .ok (.invokestatic 58, 3) := by decide +kernel
theorem dL_law_225 : decode cL_law 225 = .ok (.istore 5, 2) := by decide +kernel
theorem dL_law_227 : decode cL_law 227 = .ok (.aload_n 2, 1) := by decide +kernel
theorem dL_law_228 : decode cL_law 228 = .ok (.aload_n 0, 1) := by decide +kernel
theorem dL_law_229 : decode cL_law 229 = .ok (.iload 4, 2) := by decide +kernel
theorem dL_law_231 : decode cL_law 231 = .ok (.iconst 1, 1) := by decide +kernel
theorem dL_law_232 : decode cL_law 232 = .ok (.iadd, 1) := by decide +kernel
theorem dL_law_233 : decode cL_law 233 = .ok (.iaload, 1) := by decide +kernel
theorem dL_law_234 : decode cL_law 234 = .ok (.invokevirtual 61, 3) := by decide +kernel
theorem dL_law_237 : decode cL_law 237 = .ok (.aload_n 2, 1) := by decide +kernel
theorem dL_law_238 : decode cL_law 238 = .ok (.invokevirtual 51, 3) := by decide +kernel
theorem dL_law_241 : decode cL_law 241 = .ok (.iload 5, 2) := by decide +kernel
theorem dL_law_243 : decode cL_law 243 = .ok (.if_icmp .eq 5, 3) := by decide +kernel
theorem dL_law_246 : decode cL_law 246 = .ok (.iconst 0, 1) := by decide +kernel
theorem dL_law_247 : decode cL_law 247 = .ok (.ireturn, 1) := by decide +kernel
theorem dL_law_248 : decode cL_law 248 = .ok (.goto 228, 3) := by decide +kernel
theorem dL_law_251 : decode cL_law 251 = .ok (.aload_n 1, 1) := by decide +kernel
theorem dL_law_252 : decode cL_law 252 = .ok (.aload_n 0, 1) := by decide +kernel
theorem dL_law_253 : decode cL_law 253 = .ok (.iload 4, 2) := by decide +kernel
theorem dL_law_255 : decode cL_law 255 = .ok (.iconst 1, 1) := by decide +kernel
theorem dL_law_256 : decode cL_law 256 = .ok (.iadd, 1) := by decide +kernel
theorem dL_law_257 : decode cL_law 257 = .ok (.iaload, 1) := by decide +kernel
theorem dL_law_258 : decode cL_law 258 = .ok (.aload_n 3, 1) := by decide +kernel
theorem dL_law_259 : decode cL_law 259 = .ok (.invokestatic 62, 3) := by decide +kernel
theorem dL_law_262 : decode cL_law 262 = .ok (.istore 5, 2) := by decide +kernel
theorem dL_law_264 : decode cL_law 264 = .ok (.aload_n 2, 1) := by decide +kernel
theorem dL_law_265 : decode cL_law 265 = .ok (.aload_n 0, 1) := by decide +kernel
theorem dL_law_266 : decode cL_law 266 = .ok (.iload 4, 2) := by decide +kernel
theorem dL_law_268 : decode cL_law 268 = .ok (.iconst 1, 1) := by decide +kernel
theorem dL_law_269 : decode cL_law 269 = .ok (.iadd, 1) := by decide +kernel
theorem dL_law_270 : decode cL_law 270 = .ok (.iaload, 1) := by decide +kernel
theorem dL_law_271 : decode cL_law 271 = .ok (.invokevirtual 64, 3) := by decide +kernel
theorem dL_law_274 : decode cL_law 274 = .ok (.istore 6, 2) := by decide +kernel
theorem dL_law_276 : decode cL_law 276 = .ok (.aload_n 2, 1) := by decide +kernel
theorem dL_law_277 : decode cL_law 277 = .ok (.invokevirtual 51, 3) := by decide +kernel
theorem dL_law_280 : decode cL_law 280 = .ok (.iload 5, 2) := by decide +kernel
theorem dL_law_282 : decode cL_law 282 = .ok (.if_icmp .eq 5, 3) := by decide +kernel
theorem dL_law_285 : decode cL_law 285 = .ok (.iconst 0, 1) := by decide +kernel
theorem dL_law_286 : decode cL_law 286 = .ok (.ireturn, 1) := by decide +kernel
theorem dL_law_287 : decode cL_law 287 = .ok (.iload 5, 2) := by decide +kernel
theorem dL_law_289 : decode cL_law 289 = .ok (.ifCond .ne 15, 3) := by decide +kernel
theorem dL_law_292 : decode cL_law 292 = .ok (.aload_n 3, 1) := by decide +kernel
theorem dL_law_293 : decode cL_law 293 = .ok (.iconst 0, 1) := by decide +kernel
theorem dL_law_294 : decode cL_law 294 = .ok (.laload, 1) := by decide +kernel
theorem dL_law_295 : decode cL_law 295 = .ok (.iload 6, 2) := by decide +kernel
theorem dL_law_297 : decode cL_law 297 = .ok (.i2l, 1) := by decide +kernel
theorem dL_law_298 : decode cL_law 298 = .ok (.lcmp, 1) := by decide +kernel
theorem dL_law_299 : decode cL_law 299 = .ok (.ifCond .eq 5, 3) := by decide +kernel
theorem dL_law_302 : decode cL_law 302 = .ok (.iconst 0, 1) := by decide +kernel
theorem dL_law_303 : decode cL_law 303 = .ok (.ireturn, 1) := by decide +kernel
theorem dL_law_304 : decode cL_law 304 = .ok (.goto 172, 3) := by decide +kernel
theorem dL_law_307 : decode cL_law 307 = .ok (.aload_n 1, 1) := by decide +kernel
theorem dL_law_308 : decode cL_law 308 = .ok (.aload_n 3, 1) := by decide +kernel
theorem dL_law_309 : decode cL_law 309 = .ok (.invokestatic 65, 3) := by decide +kernel
theorem dL_law_312 : decode cL_law 312 = .ok (.istore 5, 2) := by decide +kernel
theorem dL_law_314 : decode cL_law 314 = .ok (.aload_n 2, 1) := by decide +kernel
theorem dL_law_315 : decode cL_law 315 = .ok (.invokevirtual 68, 3) := by decide +kernel
theorem dL_law_318 : decode cL_law 318 = .ok (.istore 6, 2) := by decide +kernel
theorem dL_law_320 : decode cL_law 320 = .ok (.aload_n 2, 1) := by decide +kernel
theorem dL_law_321 : decode cL_law 321 = .ok (.invokevirtual 51, 3) := by decide +kernel
theorem dL_law_324 : decode cL_law 324 = .ok (.iload 5, 2) := by decide +kernel
theorem dL_law_326 : decode cL_law 326 = .ok (.if_icmp .eq 5, 3) := by decide +kernel
theorem dL_law_329 : decode cL_law 329 = .ok (.iconst 0, 1) := by decide +kernel
theorem dL_law_330 : decode cL_law 330 = .ok (.ireturn, 1) := by decide +kernel
theorem dL_law_331 : decode cL_law 331 = .ok (.iload 5, 2) := by decide +kernel
theorem dL_law_333 : decode cL_law 333 = .ok (.ifCond .ne 15, 3) := by decide +kernel
theorem dL_law_336 : decode cL_law 336 = .ok (.aload_n 3, 1) := by decide +kernel
theorem dL_law_337 : decode cL_law 337 = .ok (.iconst 0, 1) := by decide +kernel
theorem dL_law_338 : decode cL_law 338 = .ok (.laload, 1) := by decide +kernel
theorem dL_law_339 : decode cL_law 339 = .ok (.iload 6, 2) := by decide +kernel
theorem dL_law_341 : decode cL_law 341 = .ok (.i2l, 1) := by decide +kernel
theorem dL_law_342 : decode cL_law 342 = .ok (.lcmp, 1) := by decide +kernel
theorem dL_law_343 : decode cL_law 343 = .ok (.ifCond .eq 5, 3) := by decide +kernel
theorem dL_law_346 : decode cL_law 346 = .ok (.iconst 0, 1) := by decide +kernel
theorem dL_law_347 : decode cL_law 347 = .ok (.ireturn, 1) := by decide +kernel
theorem dL_law_348 : decode cL_law 348 = .ok (.goto 128, 3) := by decide +kernel
theorem dL_law_351 : decode cL_law 351 = .ok (.aload_n 1, 1) := by decide +kernel
theorem dL_law_352 : decode cL_law 352 = .ok (.invokevirtual 69, 3) := by decide +kernel
theorem dL_law_355 : decode cL_law 355 = .ok (.aload_n 2, 1) := by decide +kernel
theorem dL_law_356 : decode cL_law 356 = .ok (.invokevirtual 72, 3) := by decide +kernel
theorem dL_law_359 : decode cL_law 359 = .ok (.if_icmp .eq 117, 3) := by decide +kernel
theorem dL_law_362 : decode cL_law 362 = .ok (.iconst 0, 1) := by decide +kernel
theorem dL_law_363 : decode cL_law 363 = .ok (.ireturn, 1) := by decide +kernel
theorem dL_law_364 : decode cL_law 364 = .ok (.aload_n 1, 1) := by decide +kernel
theorem dL_law_365 : decode cL_law 365 = .ok (.aload_n 0, 1) := by decide +kernel
theorem dL_law_366 : decode cL_law 366 = .ok (.iload 4, 2) := by decide +kernel
theorem dL_law_368 : decode cL_law 368 = .ok (.iconst 1, 1) := by decide +kernel
theorem dL_law_369 : decode cL_law 369 = .ok (.iadd, 1) := by decide +kernel
theorem dL_law_370 : decode cL_law 370 = .ok (.iaload, 1) := by decide +kernel
theorem dL_law_371 : decode cL_law 371 = .ok (.aload_n 3, 1) := by decide +kernel
theorem dL_law_372 : decode cL_law 372 = .ok (.invokestatic 73, 3) := by decide +kernel
theorem dL_law_375 : decode cL_law 375 = .ok (.istore 5, 2) := by decide +kernel
theorem dL_law_377 : decode cL_law 377 = .ok (.aload_n 2, 1) := by decide +kernel
theorem dL_law_378 : decode cL_law 378 = .ok (.aload_n 0, 1) := by decide +kernel
theorem dL_law_379 : decode cL_law 379 = .ok (.iload 4, 2) := by decide +kernel
theorem dL_law_381 : decode cL_law 381 = .ok (.iconst 1, 1) := by decide +kernel
theorem dL_law_382 : decode cL_law 382 = .ok (.iadd, 1) := by decide +kernel
theorem dL_law_383 : decode cL_law 383 = .ok (.iaload, 1) := by decide +kernel
theorem dL_law_384 : decode cL_law 384 = .ok (.invokevirtual 75, 3) := by decide +kernel
theorem dL_law_387 : decode cL_law 387 = .ok (.istore 6, 2) := by decide +kernel
theorem dL_law_389 : decode cL_law 389 = .ok (.aload_n 2, 1) := by decide +kernel
theorem dL_law_390 : decode cL_law 390 = .ok (.invokevirtual 51, 3) := by decide +kernel
theorem dL_law_393 : decode cL_law 393 = .ok (.iload 5, 2) := by decide +kernel
theorem dL_law_395 : decode cL_law 395 = .ok (.if_icmp .eq 5, 3) := by decide +kernel
theorem dL_law_398 : decode cL_law 398 = .ok (.iconst 0, 1) := by decide +kernel
theorem dL_law_399 : decode cL_law 399 = .ok (.ireturn, 1) := by decide +kernel
theorem dL_law_400 : decode cL_law 400 = .ok (.iload 5, 2) := by decide +kernel
theorem dL_law_402 : decode cL_law 402 = .ok (.ifCond .ne 15, 3) := by decide +kernel
theorem dL_law_405 : decode cL_law 405 = .ok (.aload_n 3, 1) := by decide +kernel
theorem dL_law_406 : decode cL_law 406 = .ok (.iconst 0, 1) := by decide +kernel
theorem dL_law_407 : decode cL_law 407 = .ok (.laload, 1) := by decide +kernel
theorem dL_law_408 : decode cL_law 408 = .ok (.iload 6, 2) := by decide +kernel
theorem dL_law_410 : decode cL_law 410 = .ok (.i2l, 1) := by decide +kernel
theorem dL_law_411 : decode cL_law 411 = .ok (.lcmp, 1) := by decide +kernel
theorem dL_law_412 : decode cL_law 412 = .ok (.ifCond .eq 5, 3) := by decide +kernel
theorem dL_law_415 : decode cL_law 415 = .ok (.iconst 0, 1) := by decide +kernel
theorem dL_law_416 : decode cL_law 416 = .ok (.ireturn, 1) := by decide +kernel
theorem dL_law_417 : decode cL_law 417 = .ok (.goto 59, 3) := by decide +kernel
theorem dL_law_420 : decode cL_law 420 = .ok (.aload_n 1, 1) := by decide +kernel
theorem dL_law_421 : decode cL_law 421 = .ok (.aload_n 0, 1) := by decide +kernel
theorem dL_law_422 : decode cL_law 422 = .ok (.iload 4, 2) := by decide +kernel
theorem dL_law_424 : decode cL_law 424 = .ok (.iconst 1, 1) := by decide +kernel
theorem dL_law_425 : decode cL_law 425 = .ok (.iadd, 1) := by decide +kernel
theorem dL_law_426 : decode cL_law 426 = .ok (.iaload, 1) := by decide +kernel
theorem dL_law_427 : decode cL_law 427 = .ok (.aload_n 3, 1) := by decide +kernel
theorem dL_law_428 : decode cL_law 428 = .ok (.invokestatic 76, 3) := by decide +kernel
theorem dL_law_431 : decode cL_law 431 = .ok (.istore 5, 2) := by decide +kernel
theorem dL_law_433 : decode cL_law 433 = .ok (.aload_n 2, 1) := by decide +kernel
theorem dL_law_434 : decode cL_law 434 = .ok (.aload_n 0, 1) := by decide +kernel
theorem dL_law_435 : decode cL_law 435 = .ok (.iload 4, 2) := by decide +kernel
theorem dL_law_437 : decode cL_law 437 = .ok (.iconst 1, 1) := by decide +kernel
theorem dL_law_438 : decode cL_law 438 = .ok (.iadd, 1) := by decide +kernel
theorem dL_law_439 : decode cL_law 439 = .ok (.iaload, 1) := by decide +kernel
theorem dL_law_440 : decode cL_law 440 = .ok (.invokevirtual 78, 3) := by decide +kernel
theorem dL_law_443 : decode cL_law 443 = .ok (.istore 6, 2) := by decide +kernel
theorem dL_law_445 : decode cL_law 445 = .ok (.aload_n 2, 1) := by decide +kernel
theorem dL_law_446 : decode cL_law 446 = .ok (.invokevirtual 51, 3) := by decide +kernel
theorem dL_law_449 : decode cL_law 449 = .ok (.iload 5, 2) := by decide +kernel
theorem dL_law_451 : decode cL_law 451 = .ok (.if_icmp .eq 5, 3) := by decide +kernel
theorem dL_law_454 : decode cL_law 454 = .ok (.iconst 0, 1) := by decide +kernel
theorem dL_law_455 : decode cL_law 455 = .ok (.ireturn, 1) := by decide +kernel
theorem dL_law_456 : decode cL_law 456 = .ok (.iload 5, 2) := by decide +kernel
theorem dL_law_458 : decode cL_law 458 = .ok (.ifCond .ne 15, 3) := by decide +kernel
theorem dL_law_461 : decode cL_law 461 = .ok (.aload_n 3, 1) := by decide +kernel
theorem dL_law_462 : decode cL_law 462 = .ok (.iconst 0, 1) := by decide +kernel
theorem dL_law_463 : decode cL_law 463 = .ok (.laload, 1) := by decide +kernel
theorem dL_law_464 : decode cL_law 464 = .ok (.iload 6, 2) := by decide +kernel
theorem dL_law_466 : decode cL_law 466 = .ok (.i2l, 1) := by decide +kernel
theorem dL_law_467 : decode cL_law 467 = .ok (.lcmp, 1) := by decide +kernel
theorem dL_law_468 : decode cL_law 468 = .ok (.ifCond .eq 5, 3) := by decide +kernel
theorem dL_law_471 : decode cL_law 471 = .ok (.iconst 0, 1) := by decide +kernel
theorem dL_law_472 : decode cL_law 472 = .ok (.ireturn, 1) := by decide +kernel
theorem dL_law_473 : decode cL_law 473 = .ok (.goto 3, 3) := by decide +kernel
theorem dL_law_476 : decode cL_law 476 = .ok (.iinc 4 3, 3) := by decide +kernel
theorem dL_law_479 : decode cL_law 479 = .ok (.goto (-456), 3) := by decide +kernel
theorem dL_law_482 : decode cL_law 482 = .ok (.iconst 1, 1) := by decide +kernel
theorem dL_law_483 : decode cL_law 483 = .ok (.ireturn, 1) := by decide +kernel
end
section
theorem dX6_init_0 : decode cX6_init 0 = .ok (.aload_n 0, 1) := by decide +kernel
theorem dX6_init_1 : decode cX6_init 1 = .ok (.invokespecial 1, 3) := by decide +kernel
theorem dX6_init_4 : decode cX6_init 4 = .ok (.aload_n 0, 1) := by decide +kernel
theorem dX6_init_5 : decode cX6_init 5 = .ok (.sipush 2000, 3) := by decide +kernel
theorem dX6_init_8 : decode cX6_init 8 = .ok (.newarray .boolean, 2) := by decide +kernel
theorem dX6_init_10 : decode cX6_init 10 = .ok (.putfield 7, 3) := by decide +kernel
theorem dX6_init_13 : decode cX6_init 13 = .ok (.aload_n 0, 1) := by decide +kernel
theorem dX6_init_14 : decode cX6_init 14 = .ok (.sipush 400, 3) := by decide +kernel
theorem dX6_init_17 : decode cX6_init 17 = .ok (.newarray .int, 2) := by decide +kernel
theorem dX6_init_19 : decode cX6_init 19 = .ok (.putfield 13, 3) := by decide +kernel
theorem dX6_init_22 : decode cX6_init 22 = .ok (.aload_n 0, 1) := by decide +kernel
theorem dX6_init_23 : decode cX6_init 23 = .ok (.sipush 400, 3) := by decide +kernel
theorem dX6_init_26 : decode cX6_init 26 = .ok (.newarray .int, 2) := by decide +kernel
theorem dX6_init_28 : decode cX6_init 28 = .ok (.putfield 17, 3) := by decide +kernel
theorem dX6_init_31 : decode cX6_init 31 = .ok (.aload_n 0, 1) := by decide +kernel
theorem dX6_init_32 : decode cX6_init 32 = .ok (.bipush 9, 2) := by decide +kernel
theorem dX6_init_34 : decode cX6_init 34 = .ok (.newarray .int, 2) := by decide +kernel
theorem dX6_init_36 : decode cX6_init 36 = .ok (.putfield 20, 3) := by decide +kernel
theorem dX6_init_39 : decode cX6_init 39 = .ok (.aload_n 0, 1) := by decide +kernel
theorem dX6_init_40 : decode cX6_init 40 = .ok (.bipush 9, 2) := by decide +kernel
theorem dX6_init_42 : decode cX6_init 42 = .ok (.newarray .int, 2) := by decide +kernel
theorem dX6_init_44 : decode cX6_init 44 = .ok (.putfield 23, 3) := by decide +kernel
theorem dX6_init_47 : decode cX6_init 47 = .ok (.aload_n 0, 1) := by decide +kernel
theorem dX6_init_48 : decode cX6_init 48 = .ok (.sipush 224, 3) := by decide +kernel
theorem dX6_init_51 : decode cX6_init 51 = .ok (.newarray .int, 2) := by decide +kernel
theorem dX6_init_53 : decode cX6_init 53 = .ok (.putfield 26, 3) := by decide +kernel
theorem dX6_init_56 : decode cX6_init 56 = .ok (.aload_n 0, 1) := by decide +kernel
theorem dX6_init_57 : decode cX6_init 57 = .ok (.bipush 7, 2) := by decide +kernel
theorem dX6_init_59 : decode cX6_init 59 = .ok (.newarray .int, 2) := by decide +kernel
theorem dX6_init_61 : decode cX6_init 61 = .ok (.putfield 29, 3) := by decide +kernel
theorem dX6_init_64 : decode cX6_init 64 = .ok (.aload_n 0, 1) := by decide +kernel
theorem dX6_init_65 : decode cX6_init 65 = .ok (.iconst 4, 1) := by decide +kernel
theorem dX6_init_66 : decode cX6_init 66 = .ok (.newarray .int, 2) := by decide +kernel
theorem dX6_init_68 : decode cX6_init 68 = .ok (.putfield 32, 3) := by decide +kernel
theorem dX6_init_71 : decode cX6_init 71 = .ok (.aload_n 0, 1) := by decide +kernel
theorem dX6_init_72 : decode cX6_init 72 = .ok (.iconst 3, 1) := by decide +kernel
theorem dX6_init_73 : decode cX6_init 73 = .ok (.newarray .int, 2) := by decide +kernel
theorem dX6_init_75 : decode cX6_init 75 = .ok (.putfield 35, 3) := by decide +kernel
theorem dX6_init_78 : decode cX6_init 78 = .ok (.aload_n 0, 1) := by decide +kernel
theorem dX6_init_79 : decode cX6_init 79 = .ok (.bipush 12, 2) := by decide +kernel
theorem dX6_init_81 : decode cX6_init 81 = .ok (.newarray .int, 2) := by decide +kernel
theorem dX6_init_83 : decode cX6_init 83 = .ok (.putfield 38, 3) := by decide +kernel
theorem dX6_init_86 : decode cX6_init 86 = .ok (.aload_n 0, 1) := by decide +kernel
theorem dX6_init_87 : decode cX6_init 87 = .ok (.iconst 4, 1) := by decide +kernel
theorem dX6_init_88 : decode cX6_init 88 = .ok (.newarray .int, 2) := by decide +kernel
theorem dX6_init_90 : decode cX6_init 90 = .ok (.putfield 41, 3) := by decide +kernel
theorem dX6_init_93 : decode cX6_init 93 = .ok (.aload_n 0, 1) := by decide +kernel
theorem dX6_init_94 : decode cX6_init 94 = .ok (.aload_n 0, 1) := by decide +kernel
theorem dX6_init_95 : decode cX6_init 95 = .ok (.getfield 20, 3) := by decide +kernel
theorem dX6_init_98 : decode cX6_init 98 = .ok (.invokevirtual 44, 3) := by decide +kernel
theorem dX6_init_101 : decode cX6_init 101 = .ok (.return_, 1) := by decide +kernel
theorem dX6_thrown_0 : decode cX6_thrown 0 = .ok (.aload_n 0, 1) := by decide +kernel
theorem dX6_thrown_1 : decode cX6_thrown 1 = .ok (.getfield 48, 3) := by decide +kernel
theorem dX6_thrown_4 : decode cX6_thrown 4 = .ok (.ireturn, 1) := by decide +kernel
theorem dX6_first_0 : decode cX6_first 0 = .ok (.iconst 0, 1) := by decide +kernel
theorem dX6_first_1 : decode cX6_first 1 = .ok (.istore_n 2, 1) := by decide +kernel
theorem dX6_first_2 : decode cX6_first 2 = .ok (.iload_n 2, 1) := by decide +kernel
theorem dX6_first_3 : decode cX6_first 3 = .ok (.iconst 5, 1) := by decide +kernel
theorem dX6_first_4 : decode cX6_first 4 = .ok (.if_icmp .ge 13, 3) := by decide +kernel
theorem dX6_first_7 : decode cX6_first 7 = .ok (.aload_n 1, 1) := by decide +kernel
theorem dX6_first_8 : decode cX6_first 8 = .ok (.iload_n 2, 1) := by decide +kernel
theorem dX6_first_9 : decode cX6_first 9 = .ok (.iconst 0, 1) := by decide +kernel
theorem dX6_first_10 : decode cX6_first 10 = .ok (.iastore, 1) := by decide +kernel
theorem dX6_first_11 : decode cX6_first 11 = .ok (.iinc 2 1, 3) := by decide +kernel
theorem dX6_first_14 : decode cX6_first 14 = .ok (.goto (-12), 3) := by decide +kernel
theorem dX6_first_17 : decode cX6_first 17 = .ok (.aload_n 1, 1) := by decide +kernel
theorem dX6_first_18 : decode cX6_first 18 = .ok (.iconst 5, 1) := by decide +kernel
theorem dX6_first_19 : decode cX6_first 19 = .ok (.iconst 4, 1) := by decide +kernel
theorem dX6_first_20 : decode cX6_first 20 = .ok (.iastore, 1) := by decide +kernel
theorem dX6_first_21 : decode cX6_first 21 = .ok (.aload_n 1, 1) := by decide +kernel
theorem dX6_first_22 : decode cX6_first 22 = .ok (.bipush 6, 2) := by decide +kernel
theorem dX6_first_24 : decode cX6_first 24 = .ok (.bipush 11, 2) := by decide +kernel
theorem dX6_first_26 : decode cX6_first 26 = .ok (.iastore, 1) := by decide +kernel
theorem dX6_first_27 : decode cX6_first 27 = .ok (.aload_n 1, 1) := by decide +kernel
theorem dX6_first_28 : decode cX6_first 28 = .ok (.bipush 7, 2) := by decide +kernel
theorem dX6_first_30 : decode cX6_first 30 = .ok (.bipush 15, 2) := by decide +kernel
theorem dX6_first_32 : decode cX6_first 32 = .ok (.iastore, 1) := by decide +kernel
theorem dX6_first_33 : decode cX6_first 33 = .ok (.aload_n 1, 1) := by decide +kernel
theorem dX6_first_34 : decode cX6_first 34 = .ok (.bipush 8, 2) := by decide +kernel
theorem dX6_first_36 : decode cX6_first 36 = .ok (.bipush 16, 2) := by decide +kernel
theorem dX6_first_38 : decode cX6_first 38 = .ok (.iastore, 1) := by decide +kernel
theorem dX6_first_39 : decode cX6_first 39 = .ok (.return_, 1) := by decide +kernel
theorem dX6_put_0 : decode cX6_put 0 = .ok (.iload_n 2, 1) := by decide +kernel
theorem dX6_put_1 : decode cX6_put 1 = .ok (.ifCond .lt 13, 3) := by decide +kernel
theorem dX6_put_4 : decode cX6_put 4 = .ok (.iload_n 2, 1) := by decide +kernel
theorem dX6_put_5 : decode cX6_put 5 = .ok (.bipush 24, 2) := by decide +kernel
theorem dX6_put_7 : decode cX6_put 7 = .ok (.if_icmp .gt 7, 3) := by decide +kernel
theorem dX6_put_10 : decode cX6_put 10 = .ok (.iload_n 1, 1) := by decide +kernel
theorem dX6_put_11 : decode cX6_put 11 = .ok (.ifCond .ge 7, 3) := by decide +kernel
theorem dX6_put_14 : decode cX6_put 14 = .ok (.iconst 1, 1) := by decide +kernel
theorem dX6_put_15 : decode cX6_put 15 = .ok (.goto 4, 3) := by decide +kernel
theorem dX6_put_18 : decode cX6_put 18 = .ok (.iconst 0, 1) := by decide +kernel
theorem dX6_put_19 : decode cX6_put 19 = .ok (.istore_n 3, 1) := by decide +kernel
theorem dX6_put_20 : decode cX6_put 20 = .ok (.aload_n 0, 1) := by decide +kernel
theorem dX6_put_21 : decode cX6_put 21 = .ok (.iload_n 3, 1) := by decide +kernel
theorem dX6_put_22 : decode cX6_put 22 = .ok (.ifCond .eq 7, 3) := by decide +kernel
theorem dX6_put_25 : decode cX6_put 25 = .ok (.iconst 1, 1) := by decide +kernel
theorem dX6_put_26 : decode cX6_put 26 = .ok (.goto 30, 3) := by decide +kernel
theorem dX6_put_29 : decode cX6_put 29 = .ok (.iload_n 1, 1) := by decide +kernel
theorem dX6_put_30 : decode cX6_put 30 = .ok (.iload_n 2, 1) := by decide +kernel
theorem dX6_put_31 : decode cX6_put 31 = .ok (.ishr, 1) := by decide +kernel
theorem dX6_put_32 : decode cX6_put 32 = .ok (.ifCond .eq 7, 3) := by decide +kernel
theorem dX6_put_35 : decode cX6_put 35 = .ok (.iconst 1, 1) := by decide +kernel
theorem dX6_put_36 : decode cX6_put 36 = .ok (.goto 20, 3) := by decide +kernel
theorem dX6_put_39 : decode cX6_put 39 = .ok (.aload_n 0, 1) := by decide +kernel
theorem dX6_put_40 : decode cX6_put 40 = .ok (.getfield 52, 3) := by decide +kernel
theorem dX6_put_43 : decode cX6_put 43 = .ok (.iload_n 2, 1) := by decide +kernel
theorem dX6_put_44 : decode cX6_put 44 = .ok (.iadd, 1) := by decide +kernel
theorem dX6_put_45 : decode cX6_put 45 = .ok (.sipush 2000, 3) := by decide +kernel
theorem dX6_put_48 : decode cX6_put 48 = .ok (.if_icmp .le 7, 3) := by decide +kernel
theorem dX6_put_51 : decode cX6_put 51 = .ok (.iconst 2, 1) := by decide +kernel
theorem dX6_put_52 : decode cX6_put 52 = .ok (.goto 4, 3) := by decide +kernel
theorem dX6_put_55 : decode cX6_put 55 = .ok (.iconst 0, 1) := by decide +kernel
theorem dX6_put_56 : decode cX6_put 56 = .ok (.putfield 48, 3) := by decide +kernel
theorem dX6_put_59 : decode cX6_put 59 = .ok (.aload_n 0, 1) := by decide +kernel
theorem dX6_put_60 : decode cX6_put 60 = .ok (.getfield 48, 3) := by decide +kernel
theorem dX6_put_63 : decode cX6_put 63 = .ok (.ifCond .eq 5, 3) := by decide +kernel
theorem dX6_put_66 : decode cX6_put 66 = .ok (.iconst 0, 1) := by decide +kernel
theorem dX6_put_67 : decode cX6_put 67 = .ok (.ireturn, 1) := by decide +kernel
theorem dX6_put_68 : decode cX6_put 68 = .ok (.iconst 0, 1) := by decide +kernel
theorem dX6_put_69 : decode cX6_put 69 = .ok (.istore 4, 2) := by decide +kernel
theorem dX6_put_71 : decode cX6_put 71 = .ok (.iload 4, 2) := by decide +kernel
theorem dX6_put_73 : decode cX6_put 73 = .ok (.iload_n 2, 1) := by decide +kernel
theorem dX6_put_74 : decode cX6_put 74 = .ok (.if_icmp .ge 43, 3) := by decide +kernel
theorem dX6_put_77 : decode cX6_put 77 = .ok (.aload_n 0, 1) := by decide +kernel
theorem dX6_put_78 : decode cX6_put 78 = .ok (.getfield 7, 3) := by decide +kernel
theorem dX6_put_81 : decode cX6_put 81 = .ok (.aload_n 0, 1) := by decide +kernel
theorem dX6_put_82 : decode cX6_put 82 = .ok (.getfield 52, 3) := by decide +kernel
theorem dX6_put_85 : decode cX6_put 85 = .ok (.iload_n 1, 1) := by decide +kernel
theorem dX6_put_86 : decode cX6_put 86 = .ok (.iload 4, 2) := by decide +kernel
theorem dX6_put_88 : decode cX6_put 88 = .ok (.ishr, 1) := by decide +kernel
theorem dX6_put_89 : decode cX6_put 89 = .ok (.iconst 1, 1) := by decide +kernel
theorem dX6_put_90 : decode cX6_put 90 = .ok (.iand, 1) := by decide +kernel
theorem dX6_put_91 : decode cX6_put 91 = .ok (.iconst 1, 1) := by decide +kernel
theorem dX6_put_92 : decode cX6_put 92 = .ok (.if_icmp .ne 7, 3) := by decide +kernel
theorem dX6_put_95 : decode cX6_put 95 = .ok (.iconst 1, 1) := by decide +kernel
theorem dX6_put_96 : decode cX6_put 96 = .ok (.goto 4, 3) := by decide +kernel
theorem dX6_put_99 : decode cX6_put 99 = .ok (.iconst 0, 1) := by decide +kernel
theorem dX6_put_100 : decode cX6_put 100 = .ok (.bastore, 1) := by decide +kernel
theorem dX6_put_101 : decode cX6_put 101 = .ok (.aload_n 0, 1) := by decide +kernel
theorem dX6_put_102 : decode cX6_put 102 = .ok (.dup, 1) := by decide +kernel
theorem dX6_put_103 : decode cX6_put 103 = .ok (.getfield 52, 3) := by decide +kernel
theorem dX6_put_106 : decode cX6_put 106 = .ok (.iconst 1, 1) := by decide +kernel
theorem dX6_put_107 : decode cX6_put 107 = .ok (.iadd, 1) := by decide +kernel
theorem dX6_put_108 : decode cX6_put 108 = .ok (.putfield 52, 3) := by decide +kernel
theorem dX6_put_111 : decode cX6_put 111 = .ok (.iinc 4 1, 3) := by decide +kernel
theorem dX6_put_114 : decode cX6_put 114 = .ok (.goto (-43), 3) := by decide +kernel
theorem dX6_put_117 : decode cX6_put 117 = .ok (.aload_n 0, 1) := by decide +kernel
theorem dX6_put_118 : decode cX6_put 118 = .ok (.getfield 52, 3) := by decide +kernel
theorem dX6_put_121 : decode cX6_put 121 = .ok (.ireturn, 1) := by decide +kernel
theorem dX6_noBit_0 : decode cX6_noBit 0 = .ok (.iload_n 1, 1) := by decide +kernel
theorem dX6_noBit_1 : decode cX6_noBit 1 = .ok (.ifCond .lt 11, 3) := by decide +kernel
theorem dX6_noBit_4 : decode cX6_noBit 4 = .ok (.iload_n 1, 1) := by decide +kernel
theorem dX6_noBit_5 : decode cX6_noBit 5 = .ok (.aload_n 0, 1) := by decide +kernel
theorem dX6_noBit_6 : decode cX6_noBit 6 = .ok (.getfield 52, 3) := by decide +kernel
theorem dX6_noBit_9 : decode cX6_noBit 9 = .ok (.if_icmp .lt 7, 3) := by decide +kernel
theorem dX6_noBit_12 : decode cX6_noBit 12 = .ok (.iconst 1, 1) := by decide +kernel
theorem dX6_noBit_13 : decode cX6_noBit 13 = .ok (.goto 4, 3) := by decide +kernel
theorem dX6_noBit_16 : decode cX6_noBit 16 = .ok (.iconst 0, 1) := by decide +kernel
theorem dX6_noBit_17 : decode cX6_noBit 17 = .ok (.ireturn, 1) := by decide +kernel
theorem dX6_bit_0 : decode cX6_bit 0 = .ok (.aload_n 0, 1) := by decide +kernel
theorem dX6_bit_1 : decode cX6_bit 1 = .ok (.aload_n 0, 1) := by decide +kernel
theorem dX6_bit_2 : decode cX6_bit 2 = .ok (.iload_n 1, 1) := by decide +kernel
theorem dX6_bit_3 : decode cX6_bit 3 = .ok (.invokevirtual 55, 3) := by decide +kernel
theorem dX6_bit_6 : decode cX6_bit 6 = .ok (.ifCond .eq 7, 3) := by decide +kernel
theorem dX6_bit_9 : decode cX6_bit 9 = .ok (.iconst 1, 1) := by decide +kernel
theorem dX6_bit_10 : decode cX6_bit 10 = .ok (.goto 4, 3) := by decide +kernel
theorem dX6_bit_13 : decode cX6_bit 13 = .ok (.iconst 0, 1) := by decide +kernel
theorem dX6_bit_14 : decode cX6_bit 14 = .ok (.putfield 48, 3) := by decide +kernel
theorem dX6_bit_17 : decode cX6_bit 17 = .ok (.aload_n 0, 1) := by decide +kernel
theorem dX6_bit_18 : decode cX6_bit 18 = .ok (.getfield 48, 3) := by decide +kernel
theorem dX6_bit_21 : decode cX6_bit 21 = .ok (.ifCond .ne 16, 3) := by decide +kernel
theorem dX6_bit_24 : decode cX6_bit 24 = .ok (.aload_n 0, 1) := by decide +kernel
theorem dX6_bit_25 : decode cX6_bit 25 = .ok (.getfield 7, 3) := by decide +kernel
theorem dX6_bit_28 : decode cX6_bit 28 = .ok (.iload_n 1, 1) := by decide +kernel
theorem dX6_bit_29 : decode cX6_bit 29 = .ok (.baload, 1) := by decide +kernel
theorem dX6_bit_30 : decode cX6_bit 30 = .ok (.ifCond .eq 7, 3) := by decide +kernel
theorem dX6_bit_33 : decode cX6_bit 33 = .ok (.iconst 1, 1) := by decide +kernel
theorem dX6_bit_34 : decode cX6_bit 34 = .ok (.goto 4, 3) := by decide +kernel
theorem dX6_bit_37 : decode cX6_bit 37 = .ok (.iconst 0, 1) := by decide +kernel
theorem dX6_bit_38 : decode cX6_bit 38 = .ok (.ireturn, 1) := by decide +kernel
theorem dX6_flip_0 : decode cX6_flip 0 = .ok (.aload_n 0, 1) := by decide +kernel
theorem dX6_flip_1 : decode cX6_flip 1 = .ok (.aload_n 0, 1) := by decide +kernel
theorem dX6_flip_2 : decode cX6_flip 2 = .ok (.iload_n 1, 1) := by decide +kernel
theorem dX6_flip_3 : decode cX6_flip 3 = .ok (.invokevirtual 55, 3) := by decide +kernel
theorem dX6_flip_6 : decode cX6_flip 6 = .ok (.ifCond .eq 7, 3) := by decide +kernel
theorem dX6_flip_9 : decode cX6_flip 9 = .ok (.iconst 1, 1) := by decide +kernel
theorem dX6_flip_10 : decode cX6_flip 10 = .ok (.goto 4, 3) := by decide +kernel
theorem dX6_flip_13 : decode cX6_flip 13 = .ok (.iconst 0, 1) := by decide +kernel
theorem dX6_flip_14 : decode cX6_flip 14 = .ok (.putfield 48, 3) := by decide +kernel
theorem dX6_flip_17 : decode cX6_flip 17 = .ok (.aload_n 0, 1) := by decide +kernel
theorem dX6_flip_18 : decode cX6_flip 18 = .ok (.getfield 48, 3) := by decide +kernel
theorem dX6_flip_21 : decode cX6_flip 21 = .ok (.ifCond .ne 23, 3) := by decide +kernel
theorem dX6_flip_24 : decode cX6_flip 24 = .ok (.aload_n 0, 1) := by decide +kernel
theorem dX6_flip_25 : decode cX6_flip 25 = .ok (.getfield 7, 3) := by decide +kernel
theorem dX6_flip_28 : decode cX6_flip 28 = .ok (.iload_n 1, 1) := by decide +kernel
theorem dX6_flip_29 : decode cX6_flip 29 = .ok (.aload_n 0, 1) := by decide +kernel
theorem dX6_flip_30 : decode cX6_flip 30 = .ok (.getfield 7, 3) := by decide +kernel
theorem dX6_flip_33 : decode cX6_flip 33 = .ok (.iload_n 1, 1) := by decide +kernel
theorem dX6_flip_34 : decode cX6_flip 34 = .ok (.baload, 1) := by decide +kernel
theorem dX6_flip_35 : decode cX6_flip 35 = .ok (.ifCond .ne 7, 3) := by decide +kernel
theorem dX6_flip_38 : decode cX6_flip 38 = .ok (.iconst 1, 1) := by decide +kernel
theorem dX6_flip_39 : decode cX6_flip 39 = .ok (.goto 4, 3) := by decide +kernel
theorem dX6_flip_42 : decode cX6_flip 42 = .ok (.iconst 0, 1) := by decide +kernel
theorem dX6_flip_43 : decode cX6_flip 43 = .ok (.bastore, 1) := by decide +kernel
theorem dX6_flip_44 : decode cX6_flip 44 = .ok (.return_, 1) := by decide +kernel
theorem dX6_cut_0 : decode cX6_cut 0 = .ok (.aload_n 0, 1) := by decide +kernel
theorem dX6_cut_1 : decode cX6_cut 1 = .ok (.iload_n 1, 1) := by decide +kernel
theorem dX6_cut_2 : decode cX6_cut 2 = .ok (.ifCond .lt 11, 3) := by decide +kernel
theorem dX6_cut_5 : decode cX6_cut 5 = .ok (.iload_n 1, 1) := by decide +kernel
theorem dX6_cut_6 : decode cX6_cut 6 = .ok (.aload_n 0, 1) := by decide +kernel
theorem dX6_cut_7 : decode cX6_cut 7 = .ok (.getfield 52, 3) := by decide +kernel
theorem dX6_cut_10 : decode cX6_cut 10 = .ok (.if_icmp .le 7, 3) := by decide +kernel
theorem dX6_cut_13 : decode cX6_cut 13 = .ok (.iconst 1, 1) := by decide +kernel
theorem dX6_cut_14 : decode cX6_cut 14 = .ok (.goto 4, 3) := by decide +kernel
theorem dX6_cut_17 : decode cX6_cut 17 = .ok (.iconst 0, 1) := by decide +kernel
theorem dX6_cut_18 : decode cX6_cut 18 = .ok (.putfield 48, 3) := by decide +kernel
theorem dX6_cut_21 : decode cX6_cut 21 = .ok (.aload_n 0, 1) := by decide +kernel
theorem dX6_cut_22 : decode cX6_cut 22 = .ok (.getfield 48, 3) := by decide +kernel
theorem dX6_cut_25 : decode cX6_cut 25 = .ok (.ifCond .eq 5, 3) := by decide +kernel
theorem dX6_cut_28 : decode cX6_cut 28 = .ok (.iconst 0, 1) := by decide +kernel
theorem dX6_cut_29 : decode cX6_cut 29 = .ok (.ireturn, 1) := by decide +kernel
theorem dX6_cut_30 : decode cX6_cut 30 = .ok (.aload_n 0, 1) := by decide +kernel
theorem dX6_cut_31 : decode cX6_cut 31 = .ok (.getfield 52, 3) := by decide +kernel
theorem dX6_cut_34 : decode cX6_cut 34 = .ok (.iload_n 1, 1) := by decide +kernel
theorem dX6_cut_35 : decode cX6_cut 35 = .ok (.isub, 1) := by decide +kernel
theorem dX6_cut_36 : decode cX6_cut 36 = .ok (.istore_n 2, 1) := by decide +kernel
theorem dX6_cut_37 : decode cX6_cut 37 = .ok (.aload_n 0, 1) := by decide +kernel
theorem dX6_cut_38 : decode cX6_cut 38 = .ok (.iload_n 1, 1) := by decide +kernel
theorem dX6_cut_39 : decode cX6_cut 39 = .ok (.putfield 52, 3) := by decide +kernel
theorem dX6_cut_42 : decode cX6_cut 42 = .ok (.iload_n 2, 1) := by decide +kernel
theorem dX6_cut_43 : decode cX6_cut 43 = .ok (.ireturn, 1) := by decide +kernel
theorem dX6_number_0 : decode cX6_number 0 = .ok (.aload_n 0, 1) := by decide +kernel
theorem dX6_number_1 : decode cX6_number 1 = .ok (.aload_n 0, 1) := by decide +kernel
theorem dX6_number_2 : decode cX6_number 2 = .ok (.getfield 59, 3) := by decide +kernel
theorem dX6_number_5 : decode cX6_number 5 = .ok (.ifCond .ne 16, 3) := by decide +kernel
theorem dX6_number_8 : decode cX6_number 8 = .ok (.aload_n 0, 1) := by decide +kernel
theorem dX6_number_9 : decode cX6_number 9 = .ok (.getfield 63, 3) := by decide +kernel
theorem dX6_number_12 : decode cX6_number 12 = .ok (.iload_n 1, 1) := by decide +kernel
theorem dX6_number_13 : decode cX6_number 13 = .ok (.iadd, 1) := by decide +kernel
theorem dX6_number_14 : decode cX6_number 14 = .ok (.aload_n 0, 1) := by decide +kernel
theorem dX6_number_15 : decode cX6_number 15 = .ok (.getfield 52, 3) := by decide +kernel
theorem dX6_number_18 : decode cX6_number 18 = .ok (.if_icmp .le 7, 3) := by decide +kernel
theorem dX6_number_21 : decode cX6_number 21 = .ok (.iconst 1, 1) := by decide +kernel
theorem dX6_number_22 : decode cX6_number 22 = .ok (.goto 4, 3) := by decide +kernel
theorem dX6_number_25 : decode cX6_number 25 = .ok (.iconst 0, 1) := by decide +kernel
theorem dX6_number_26 : decode cX6_number 26 = .ok (.putfield 59, 3) := by decide +kernel
theorem dX6_number_29 : decode cX6_number 29 = .ok (.iconst 0, 1) := by decide +kernel
theorem dX6_number_30 : decode cX6_number 30 = .ok (.istore_n 2, 1) := by decide +kernel
theorem dX6_number_31 : decode cX6_number 31 = .ok (.iconst 0, 1) := by decide +kernel
theorem dX6_number_32 : decode cX6_number 32 = .ok (.istore_n 3, 1) := by decide +kernel
theorem dX6_number_33 : decode cX6_number 33 = .ok (.iload_n 3, 1) := by decide +kernel
theorem dX6_number_34 : decode cX6_number 34 = .ok (.iload_n 1, 1) := by decide +kernel
theorem dX6_number_35 : decode cX6_number 35 = .ok (.if_icmp .ge 48, 3) := by decide +kernel
theorem dX6_number_38 : decode cX6_number 38 = .ok (.aload_n 0, 1) := by decide +kernel
theorem dX6_number_39 : decode cX6_number 39 = .ok (.getfield 59, 3) := by decide +kernel
theorem dX6_number_42 : decode cX6_number 42 = .ok (.ifCond .ne 41, 3) := by decide +kernel
theorem dX6_number_45 : decode cX6_number 45 = .ok (.aload_n 0, 1) := by decide +kernel
theorem dX6_number_46 : decode cX6_number 46 = .ok (.getfield 7, 3) := by decide +kernel
theorem dX6_number_49 : decode cX6_number 49 = .ok (.aload_n 0, 1) := by decide +kernel
theorem dX6_number_50 : decode cX6_number 50 = .ok (.getfield 63, 3) := by decide +kernel
theorem dX6_number_53 : decode cX6_number 53 = .ok (.baload, 1) := by decide +kernel
theorem dX6_number_54 : decode cX6_number 54 = .ok (.ifCond .eq 11, 3) := by decide +kernel
theorem dX6_number_57 : decode cX6_number 57 = .ok (.iload_n 2, 1) := by decide +kernel
theorem dX6_number_58 : decode cX6_number 58 = .ok (.iconst 1, 1) := by decide +kernel
theorem dX6_number_59 : decode cX6_number 59 = .ok (.iload_n 3, 1) := by decide +kernel
theorem dX6_number_60 : decode cX6_number 60 = .ok (.ishl, 1) := by decide +kernel
theorem dX6_number_61 : decode cX6_number 61 = .ok (.ior, 1) := by decide +kernel
theorem dX6_number_62 : decode cX6_number 62 = .ok (.goto 4, 3) := by decide +kernel
theorem dX6_number_65 : decode cX6_number 65 = .ok (.iload_n 2, 1) := by decide +kernel
theorem dX6_number_66 : decode cX6_number 66 = .ok (.istore_n 2, 1) := by decide +kernel
theorem dX6_number_67 : decode cX6_number 67 = .ok (.aload_n 0, 1) := by decide +kernel
theorem dX6_number_68 : decode cX6_number 68 = .ok (.dup, 1) := by decide +kernel
theorem dX6_number_69 : decode cX6_number 69 = .ok (.getfield 63, 3) := by decide +kernel
theorem dX6_number_72 : decode cX6_number 72 = .ok (.iconst 1, 1) := by decide +kernel
theorem dX6_number_73 : decode cX6_number 73 = .ok (.iadd, 1) := by decide +kernel
theorem dX6_number_74 : decode cX6_number 74 = .ok (.putfield 63, 3) := by decide +kernel
theorem dX6_number_77 : decode cX6_number 77 = .ok (.iinc 3 1, 3) := by decide +kernel
theorem dX6_number_80 : decode cX6_number 80 = .ok (.goto (-47), 3) := by decide +kernel
theorem dX6_number_83 : decode cX6_number 83 = .ok (.iload_n 2, 1) := by decide +kernel
theorem dX6_number_84 : decode cX6_number 84 = .ok (.ireturn, 1) := by decide +kernel
theorem dX6_widthOf_0 : decode cX6_widthOf 0 = .ok (.iconst 0, 1) := by decide +kernel
theorem dX6_widthOf_1 : decode cX6_widthOf 1 = .ok (.istore_n 2, 1) := by decide +kernel
theorem dX6_widthOf_2 : decode cX6_widthOf 2 = .ok (.iconst 1, 1) := by decide +kernel
theorem dX6_widthOf_3 : decode cX6_widthOf 3 = .ok (.iload_n 2, 1) := by decide +kernel
theorem dX6_widthOf_4 : decode cX6_widthOf 4 = .ok (.ishl, 1) := by decide +kernel
theorem dX6_widthOf_5 : decode cX6_widthOf 5 = .ok (.iload_n 1, 1) := by decide +kernel
theorem dX6_widthOf_6 : decode cX6_widthOf 6 = .ok (.if_icmp .ge 9, 3) := by decide +kernel
theorem dX6_widthOf_9 : decode cX6_widthOf 9 = .ok (.iinc 2 1, 3) := by decide +kernel
theorem dX6_widthOf_12 : decode cX6_widthOf 12 = .ok (.goto (-10), 3) := by decide +kernel
theorem dX6_widthOf_15 : decode cX6_widthOf 15 = .ok (.iload_n 2, 1) := by decide +kernel
theorem dX6_widthOf_16 : decode cX6_widthOf 16 = .ok (.ireturn, 1) := by decide +kernel
theorem dX6_readSimple_0 : decode cX6_readSimple 0 = .ok (.aload_n 0, 1) := by decide +kernel
theorem dX6_readSimple_1 : decode cX6_readSimple 1 = .ok (.iconst 2, 1) := by decide +kernel
theorem dX6_readSimple_2 : decode cX6_readSimple 2 = .ok (.invokevirtual 66, 3) := by decide +kernel
theorem dX6_readSimple_5 : decode cX6_readSimple 5 = .ok (.iconst 1, 1) := by decide +kernel
theorem dX6_readSimple_6 : decode cX6_readSimple 6 = .ok (.iadd, 1) := by decide +kernel
theorem dX6_readSimple_7 : decode cX6_readSimple 7 = .ok (.istore_n 3, 1) := by decide +kernel
theorem dX6_readSimple_8 : decode cX6_readSimple 8 = .ok (.iconst 0, 1) := by decide +kernel
theorem dX6_readSimple_9 : decode cX6_readSimple 9 = .ok (.istore 4, 2) := by decide +kernel
theorem dX6_readSimple_11 : decode cX6_readSimple 11 = .ok (.iload 4, 2) := by decide +kernel
theorem dX6_readSimple_13 : decode cX6_readSimple 13 = .ok (.iload_n 3, 1) := by decide +kernel
theorem dX6_readSimple_14 : decode cX6_readSimple 14 = .ok (.if_icmp .ge 108, 3) := by decide +kernel
theorem dX6_readSimple_17 : decode cX6_readSimple 17 = .ok (.aload_n 0, 1) := by decide +kernel
theorem dX6_readSimple_18 : decode cX6_readSimple 18 = .ok (.getfield 59, 3) := by decide +kernel
theorem dX6_readSimple_21 : decode cX6_readSimple 21 = .ok (.ifCond .ne 101, 3) := by decide +kernel
theorem dX6_readSimple_24 : decode cX6_readSimple 24 = .ok (.aload_n 0, 1) := by decide +kernel
theorem dX6_readSimple_25 : decode cX6_readSimple 25 = .ok (.getfield 32, 3) := by decide +kernel
theorem dX6_readSimple_28 : decode cX6_readSimple 28 = .ok (.iload 4, 2) := by decide +kernel
theorem dX6_readSimple_30 : decode cX6_readSimple 30 = .ok (.aload_n 0, 1) := by decide +kernel
theorem dX6_readSimple_31 : decode cX6_readSimple 31 = .ok (.aload_n 0, 1) := by decide +kernel
theorem dX6_readSimple_32 : decode cX6_readSimple 32 = .ok (.iload_n 2, 1) := by decide +kernel
theorem dX6_readSimple_33 : decode cX6_readSimple 33 = .ok (.invokevirtual 70, 3) := by decide +kernel
theorem dX6_readSimple_36 : decode cX6_readSimple 36 = .ok (.invokevirtual 66, 3) := by decide +kernel
theorem dX6_readSimple_39 : decode cX6_readSimple 39 = .ok (.iastore, 1) := by decide +kernel
theorem dX6_readSimple_40 : decode cX6_readSimple 40 = .ok (.aload_n 0, 1) := by decide +kernel
theorem dX6_readSimple_41 : decode cX6_readSimple 41 = .ok (.aload_n 0, 1) := by decide +kernel
theorem dX6_readSimple_42 : decode cX6_readSimple 42 = .ok (.getfield 59, 3) := by decide +kernel
theorem dX6_readSimple_45 : decode cX6_readSimple 45 = .ok (.ifCond .ne 14, 3) := by decide +kernel
theorem dX6_readSimple_48 : decode cX6_readSimple 48 = .ok (.aload_n 0, 1) := by decide +kernel
theorem dX6_readSimple_49 : decode cX6_readSimple 49 = .ok (.getfield 32, 3) := by decide +kernel
theorem dX6_readSimple_52 : decode cX6_readSimple 52 = .ok (.iload 4, 2) := by decide +kernel
theorem dX6_readSimple_54 : decode cX6_readSimple 54 = .ok (.iaload, 1) := by decide +kernel
theorem dX6_readSimple_55 : decode cX6_readSimple 55 = .ok (.iload_n 2, 1) := by decide +kernel
theorem dX6_readSimple_56 : decode cX6_readSimple 56 = .ok (.if_icmp .lt 7, 3) := by decide +kernel
theorem dX6_readSimple_59 : decode cX6_readSimple 59 = .ok (.iconst 1, 1) := by decide +kernel
theorem dX6_readSimple_60 : decode cX6_readSimple 60 = .ok (.goto 4, 3) := by decide +kernel
theorem dX6_readSimple_63 : decode cX6_readSimple 63 = .ok (.iconst 0, 1) := by decide +kernel
theorem dX6_readSimple_64 : decode cX6_readSimple 64 = .ok (.putfield 59, 3) := by decide +kernel
theorem dX6_readSimple_67 : decode cX6_readSimple 67 = .ok (.iconst 0, 1) := by decide +kernel
theorem dX6_readSimple_68 : decode cX6_readSimple 68 = .ok (.istore 5, 2) := by decide +kernel
theorem dX6_readSimple_70 : decode cX6_readSimple 70 = .ok (.iload 5, 2) := by decide +kernel
theorem dX6_readSimple_72 : decode cX6_readSimple 72 = .ok (.iload 4, 2) := by decide +kernel
theorem dX6_readSimple_74 : decode cX6_readSimple 74 = .ok (.if_icmp .ge 42, 3) := by decide +kernel
theorem dX6_readSimple_77 : decode cX6_readSimple 77 = .ok (.aload_n 0, 1) := by decide +kernel
theorem dX6_readSimple_78 : decode cX6_readSimple 78 = .ok (.aload_n 0, 1) := by decide +kernel
theorem dX6_readSimple_79 : decode cX6_readSimple 79 = .ok (.getfield 59, 3) := by decide +kernel
theorem dX6_readSimple_82 : decode cX6_readSimple 82 = .ok (.ifCond .ne 20, 3) := by decide +kernel
theorem dX6_readSimple_85 : decode cX6_readSimple 85 = .ok (.aload_n 0, 1) := by decide +kernel
theorem dX6_readSimple_86 : decode cX6_readSimple 86 = .ok (.getfield 32, 3) := by decide +kernel
theorem dX6_readSimple_89 : decode cX6_readSimple 89 = .ok (.iload 5, 2) := by decide +kernel
theorem dX6_readSimple_91 : decode cX6_readSimple 91 = .ok (.iaload, 1) := by decide +kernel
theorem dX6_readSimple_92 : decode cX6_readSimple 92 = .ok (.aload_n 0, 1) := by decide +kernel
theorem dX6_readSimple_93 : decode cX6_readSimple 93 = .ok (.getfield 32, 3) := by decide +kernel
theorem dX6_readSimple_96 : decode cX6_readSimple 96 = .ok (.iload 4, 2) := by decide +kernel
theorem dX6_readSimple_98 : decode cX6_readSimple 98 = .ok (.iaload, 1) := by decide +kernel
theorem dX6_readSimple_99 : decode cX6_readSimple 99 = .ok (.if_icmp .ne 7, 3) := by decide +kernel
theorem dX6_readSimple_102 : decode cX6_readSimple 102 = .ok (.iconst 1, 1) := by decide +kernel
theorem dX6_readSimple_103 : decode cX6_readSimple 103 = .ok (.goto 4, 3) := by decide +kernel
theorem dX6_readSimple_106 : decode cX6_readSimple 106 = .ok (.iconst 0, 1) := by decide +kernel
theorem dX6_readSimple_107 : decode cX6_readSimple 107 = .ok (.putfield 59, 3) := by decide +kernel
theorem dX6_readSimple_110 : decode cX6_readSimple 110 = .ok (.iinc 5 1, 3) := by decide +kernel
theorem dX6_readSimple_113 : decode cX6_readSimple 113 = .ok (.goto (-43), 3) := by decide +kernel
theorem dX6_readSimple_116 : decode cX6_readSimple 116 = .ok (.iinc 4 1, 3) := by decide +kernel
theorem dX6_readSimple_119 : decode cX6_readSimple 119 = .ok (.goto (-108), 3) := by decide +kernel
theorem dX6_readSimple_122 : decode cX6_readSimple 122 = .ok (.iload_n 3, 1) := by decide +kernel
theorem dX6_readSimple_123 : decode cX6_readSimple 123 = .ok (.iconst 4, 1) := by decide +kernel
theorem dX6_readSimple_124 : decode cX6_readSimple 124 = .ok (.if_icmp .ne 16, 3) := by decide +kernel
theorem dX6_readSimple_127 : decode cX6_readSimple 127 = .ok (.aload_n 0, 1) := by decide +kernel
theorem dX6_readSimple_128 : decode cX6_readSimple 128 = .ok (.iconst 1, 1) := by decide +kernel
theorem dX6_readSimple_129 : decode cX6_readSimple 129 = .ok (.invokevirtual 66, 3) := by decide +kernel
theorem dX6_readSimple_132 : decode cX6_readSimple 132 = .ok (.iconst 1, 1) := by decide +kernel
theorem dX6_readSimple_133 : decode cX6_readSimple 133 = .ok (.if_icmp .ne 7, 3) := by decide +kernel
theorem dX6_readSimple_136 : decode cX6_readSimple 136 = .ok (.iconst 1, 1) := by decide +kernel
theorem dX6_readSimple_137 : decode cX6_readSimple 137 = .ok (.goto 4, 3) := by decide +kernel
theorem dX6_readSimple_140 : decode cX6_readSimple 140 = .ok (.iconst 0, 1) := by decide +kernel
theorem dX6_readSimple_141 : decode cX6_readSimple 141 = .ok (.istore 4, 2) := by decide +kernel
theorem dX6_readSimple_143 : decode cX6_readSimple 143 = .ok (.aload_n 0, 1) := by decide +kernel
theorem dX6_readSimple_144 : decode cX6_readSimple 144 = .ok (.getfield 59, 3) := by decide +kernel
theorem dX6_readSimple_147 : decode cX6_readSimple 147 = .ok (.ifCond .eq 4, 3) := by decide +kernel
theorem dX6_readSimple_150 : decode cX6_readSimple 150 = .ok (.return_, 1) := by decide +kernel
theorem dX6_readSimple_151 : decode cX6_readSimple 151 = .ok (.aload_n 0, 1) := by decide +kernel
theorem dX6_readSimple_152 : decode cX6_readSimple 152 = .ok (.getfield 29, 3) := by decide +kernel
theorem dX6_readSimple_155 : decode cX6_readSimple 155 = .ok (.iload_n 1, 1) := by decide +kernel
theorem dX6_readSimple_156 : decode cX6_readSimple 156 = .ok (.iload_n 3, 1) := by decide +kernel
theorem dX6_readSimple_157 : decode cX6_readSimple 157 = .ok (.iconst 1, 1) := by decide +kernel
theorem dX6_readSimple_158 : decode cX6_readSimple 158 = .ok (.if_icmp .ne 12, 3) := by decide +kernel
theorem dX6_readSimple_161 : decode cX6_readSimple 161 = .ok (.aload_n 0, 1) := by decide +kernel
theorem dX6_readSimple_162 : decode cX6_readSimple 162 = .ok (.getfield 32, 3) := by decide +kernel
theorem dX6_readSimple_165 : decode cX6_readSimple 165 = .ok (.iconst 0, 1) := by decide +kernel
theorem dX6_readSimple_166 : decode cX6_readSimple 166 = .ok (.iaload, 1) := by decide +kernel
theorem dX6_readSimple_167 : decode cX6_readSimple 167 = .ok (.goto 4, 3) := by decide +kernel
theorem dX6_readSimple_170 : decode cX6_readSimple 170 = .ok (.iconst (-1), 1) := by decide +kernel
theorem dX6_readSimple_171 : decode cX6_readSimple 171 = .ok (.iastore, 1) := by decide +kernel
theorem dX6_readSimple_172 : decode cX6_readSimple 172 = .ok (.iconst 0, 1) := by decide +kernel
theorem dX6_readSimple_173 : decode cX6_readSimple 173 = .ok (.istore 5, 2) := by decide +kernel
theorem dX6_readSimple_175 : decode cX6_readSimple 175 = .ok (.iload 5, 2) := by decide +kernel
theorem dX6_readSimple_177 : decode cX6_readSimple 177 = .ok (.iload_n 3, 1) := by decide +kernel
theorem dX6_readSimple_178 : decode cX6_readSimple 178 = .ok (.if_icmp .ge 85, 3) := by decide +kernel
theorem dX6_readSimple_181 : decode cX6_readSimple 181 = .ok (.iload_n 3, 1) := by decide +kernel
theorem dX6_readSimple_182 : decode cX6_readSimple 182 = .ok (.iconst 1, 1) := by decide +kernel
theorem dX6_readSimple_183 : decode cX6_readSimple 183 = .ok (.if_icmp .le 80, 3) := by decide +kernel
theorem dX6_readSimple_186 : decode cX6_readSimple 186 = .ok (.iload_n 3, 1) := by decide +kernel
theorem dX6_readSimple_187 : decode cX6_readSimple 187 = .ok (.iconst 2, 1) := by decide +kernel
theorem dX6_readSimple_188 : decode cX6_readSimple 188 = .ok (.if_icmp .ne 7, 3) := by decide +kernel
theorem dX6_readSimple_191 : decode cX6_readSimple 191 = .ok (.iconst 1, 1) := by decide +kernel
theorem dX6_readSimple_192 : decode cX6_readSimple 192 = .ok (.goto 44, 3) := by decide +kernel
theorem dX6_readSimple_195 : decode cX6_readSimple 195 = .ok (.iload_n 3, 1) := by decide +kernel
theorem dX6_readSimple_196 : decode cX6_readSimple 196 = .ok (.iconst 3, 1) := by decide +kernel
theorem dX6_readSimple_197 : decode cX6_readSimple 197 = .ok (.if_icmp .ne 16, 3) := by decide +kernel
theorem dX6_readSimple_200 : decode cX6_readSimple 200 = .ok (.iload 5, 2) := by decide +kernel
theorem dX6_readSimple_202 : decode cX6_readSimple 202 = .ok (.ifCond .ne 7, 3) := by decide +kernel
theorem dX6_readSimple_205 : decode cX6_readSimple 205 = .ok (.iconst 1, 1) := by decide +kernel
theorem dX6_readSimple_206 : decode cX6_readSimple 206 = .ok (.goto 30, 3) := by decide +kernel
theorem dX6_readSimple_209 : decode cX6_readSimple 209 = .ok (.iconst 2, 1) := by decide +kernel
theorem dX6_readSimple_210 : decode cX6_readSimple 210 = .ok (.goto 26, 3) := by decide +kernel
theorem dX6_readSimple_213 : decode cX6_readSimple 213 = .ok (.iload 4, 2) := by decide +kernel
theorem dX6_readSimple_215 : decode cX6_readSimple 215 = .ok (.ifCond .ne 7, 3) := by decide +kernel
theorem dX6_readSimple_218 : decode cX6_readSimple 218 = .ok (.iconst 2, 1) := by decide +kernel
theorem dX6_readSimple_219 : decode cX6_readSimple 219 = .ok (.goto 17, 3) := by decide +kernel
theorem dX6_readSimple_222 : decode cX6_readSimple 222 = .ok (.iload 5, 2) := by decide +kernel
theorem dX6_readSimple_224 : decode cX6_readSimple 224 = .ok (.iconst 2, 1) := by decide +kernel
theorem dX6_readSimple_225 : decode cX6_readSimple 225 = .ok (.if_icmp .ge 10, 3) := by decide +kernel
theorem dX6_readSimple_228 : decode cX6_readSimple 228 = .ok (.iload 5, 2) := by decide +kernel
theorem dX6_readSimple_230 : decode cX6_readSimple 230 = .ok (.iconst 1, 1) := by decide +kernel
theorem dX6_readSimple_231 : decode cX6_readSimple 231 = .ok (.iadd, 1) := by decide +kernel
theorem dX6_readSimple_232 : decode cX6_readSimple 232 = .ok (.goto 4, 3) := by decide +kernel
theorem dX6_readSimple_235 : decode cX6_readSimple 235 = .ok (.iconst 3, 1) := by decide +kernel
theorem dX6_readSimple_236 : decode cX6_readSimple 236 = .ok (.istore 6, 2) := by decide +kernel
theorem dX6_readSimple_238 : decode cX6_readSimple 238 = .ok (.aload_n 0, 1) := by decide +kernel
theorem dX6_readSimple_239 : decode cX6_readSimple 239 = .ok (.getfield 26, 3) := by decide +kernel
theorem dX6_readSimple_242 : decode cX6_readSimple 242 = .ok (.bipush 32, 2) := by decide +kernel
theorem dX6_readSimple_244 : decode cX6_readSimple 244 = .ok (.iload_n 1, 1) := by decide +kernel
theorem dX6_readSimple_245 : decode cX6_readSimple 245 = .ok (.imul, 1) := by decide +kernel
theorem dX6_readSimple_246 : decode cX6_readSimple 246 = .ok (.aload_n 0, 1) := by decide +kernel
theorem dX6_readSimple_247 : decode cX6_readSimple 247 = .ok (.getfield 32, 3) := by decide +kernel
theorem dX6_readSimple_250 : decode cX6_readSimple 250 = .ok (.iload 5, 2) := by decide +kernel
theorem dX6_readSimple_252 : decode cX6_readSimple 252 = .ok (.iaload, 1) := by decide +kernel
theorem dX6_readSimple_253 : decode cX6_readSimple 253 = .ok (.iadd, 1) := by decide +kernel
theorem dX6_readSimple_254 : decode cX6_readSimple 254 = .ok (.iload 6, 2) := by decide +kernel
theorem dX6_readSimple_256 : decode cX6_readSimple 256 = .ok (.iastore, 1) := by decide +kernel
theorem dX6_readSimple_257 : decode cX6_readSimple 257 = .ok (.iinc 5 1, 3) := by decide +kernel
theorem dX6_readSimple_260 : decode cX6_readSimple 260 = .ok (.goto (-85), 3) := by decide +kernel
theorem dX6_readSimple_263 : decode cX6_readSimple 263 = .ok (.return_, 1) := by decide +kernel
theorem dX6_readCode_0 : decode cX6_readCode 0 = .ok (.iconst 0, 1) := by decide +kernel
theorem dX6_readCode_1 : decode cX6_readCode 1 = .ok (.istore_n 3, 1) := by decide +kernel
theorem dX6_readCode_2 : decode cX6_readCode 2 = .ok (.iload_n 3, 1) := by decide +kernel
theorem dX6_readCode_3 : decode cX6_readCode 3 = .ok (.bipush 32, 2) := by decide +kernel
theorem dX6_readCode_5 : decode cX6_readCode 5 = .ok (.if_icmp .ge 21, 3) := by decide +kernel
theorem dX6_readCode_8 : decode cX6_readCode 8 = .ok (.aload_n 0, 1) := by decide +kernel
theorem dX6_readCode_9 : decode cX6_readCode 9 = .ok (.getfield 26, 3) := by decide +kernel
theorem dX6_readCode_12 : decode cX6_readCode 12 = .ok (.bipush 32, 2) := by decide +kernel
theorem dX6_readCode_14 : decode cX6_readCode 14 = .ok (.iload_n 1, 1) := by decide +kernel
theorem dX6_readCode_15 : decode cX6_readCode 15 = .ok (.imul, 1) := by decide +kernel
theorem dX6_readCode_16 : decode cX6_readCode 16 = .ok (.iload_n 3, 1) := by decide +kernel
theorem dX6_readCode_17 : decode cX6_readCode 17 = .ok (.iadd, 1) := by decide +kernel
theorem dX6_readCode_18 : decode cX6_readCode 18 = .ok (.iconst 0, 1) := by decide +kernel
theorem dX6_readCode_19 : decode cX6_readCode 19 = .ok (.iastore, 1) := by decide +kernel
theorem dX6_readCode_20 : decode cX6_readCode 20 = .ok (.iinc 3 1, 3) := by decide +kernel
theorem dX6_readCode_23 : decode cX6_readCode 23 = .ok (.goto (-21), 3) := by decide +kernel
theorem dX6_readCode_26 : decode cX6_readCode 26 = .ok (.aload_n 0, 1) := by decide +kernel
theorem dX6_readCode_27 : decode cX6_readCode 27 = .ok (.getfield 29, 3) := by decide +kernel
theorem dX6_readCode_30 : decode cX6_readCode 30 = .ok (.iload_n 1, 1) := by decide +kernel
theorem dX6_readCode_31 : decode cX6_readCode 31 = .ok (.iconst (-1), 1) := by decide +kernel
theorem dX6_readCode_32 : decode cX6_readCode 32 = .ok (.iastore, 1) := by decide +kernel
theorem dX6_readCode_33 : decode cX6_readCode 33 = .ok (.aload_n 0, 1) := by decide +kernel
theorem dX6_readCode_34 : decode cX6_readCode 34 = .ok (.iconst 1, 1) := by decide +kernel
theorem dX6_readCode_35 : decode cX6_readCode 35 = .ok (.invokevirtual 66, 3) := by decide +kernel
theorem dX6_readCode_38 : decode cX6_readCode 38 = .ok (.iconst 1, 1) := by decide +kernel
theorem dX6_readCode_39 : decode cX6_readCode 39 = .ok (.if_icmp .ne 10, 3) := by decide +kernel
theorem dX6_readCode_42 : decode cX6_readCode 42 = .ok (.aload_n 0, 1) := by decide +kernel
theorem dX6_readCode_43 : decode cX6_readCode 43 = .ok (.iload_n 1, 1) := by decide +kernel
theorem dX6_readCode_44 : decode cX6_readCode 44 = .ok (.iload_n 2, 1) := by decide +kernel
theorem dX6_readCode_45 : decode cX6_readCode 45 = .ok (.invokevirtual 73, 3) := by decide +kernel
theorem dX6_readCode_48 : decode cX6_readCode 48 = .ok (.return_, 1) := by decide +kernel
theorem dX6_readCode_49 : decode cX6_readCode 49 = .ok (.sipush 128, 3) := by decide +kernel
theorem dX6_readCode_52 : decode cX6_readCode 52 = .ok (.istore_n 3, 1) := by decide +kernel
theorem dX6_readCode_53 : decode cX6_readCode 53 = .ok (.iconst 0, 1) := by decide +kernel
theorem dX6_readCode_54 : decode cX6_readCode 54 = .ok (.istore 4, 2) := by decide +kernel
theorem dX6_readCode_56 : decode cX6_readCode 56 = .ok (.iload 4, 2) := by decide +kernel
theorem dX6_readCode_58 : decode cX6_readCode 58 = .ok (.iload_n 2, 1) := by decide +kernel
theorem dX6_readCode_59 : decode cX6_readCode 59 = .ok (.if_icmp .ge 79, 3) := by decide +kernel
theorem dX6_readCode_62 : decode cX6_readCode 62 = .ok (.iload_n 3, 1) := by decide +kernel
theorem dX6_readCode_63 : decode cX6_readCode 63 = .ok (.ifCond .le 75, 3) := by decide +kernel
theorem dX6_readCode_66 : decode cX6_readCode 66 = .ok (.aload_n 0, 1) := by decide +kernel
theorem dX6_readCode_67 : decode cX6_readCode 67 = .ok (.getfield 59, 3) := by decide +kernel
theorem dX6_readCode_70 : decode cX6_readCode 70 = .ok (.ifCond .ne 68, 3) := by decide +kernel
theorem dX6_readCode_73 : decode cX6_readCode 73 = .ok (.aload_n 0, 1) := by decide +kernel
theorem dX6_readCode_74 : decode cX6_readCode 74 = .ok (.iconst 3, 1) := by decide +kernel
theorem dX6_readCode_75 : decode cX6_readCode 75 = .ok (.invokevirtual 66, 3) := by decide +kernel
theorem dX6_readCode_78 : decode cX6_readCode 78 = .ok (.istore 5, 2) := by decide +kernel
theorem dX6_readCode_80 : decode cX6_readCode 80 = .ok (.aload_n 0, 1) := by decide +kernel
theorem dX6_readCode_81 : decode cX6_readCode 81 = .ok (.getfield 26, 3) := by decide +kernel
theorem dX6_readCode_84 : decode cX6_readCode 84 = .ok (.bipush 32, 2) := by decide +kernel
theorem dX6_readCode_86 : decode cX6_readCode 86 = .ok (.iload_n 1, 1) := by decide +kernel
theorem dX6_readCode_87 : decode cX6_readCode 87 = .ok (.imul, 1) := by decide +kernel
theorem dX6_readCode_88 : decode cX6_readCode 88 = .ok (.iload 4, 2) := by decide +kernel
theorem dX6_readCode_90 : decode cX6_readCode 90 = .ok (.iadd, 1) := by decide +kernel
theorem dX6_readCode_91 : decode cX6_readCode 91 = .ok (.iload 5, 2) := by decide +kernel
theorem dX6_readCode_93 : decode cX6_readCode 93 = .ok (.iastore, 1) := by decide +kernel
theorem dX6_readCode_94 : decode cX6_readCode 94 = .ok (.iload_n 3, 1) := by decide +kernel
theorem dX6_readCode_95 : decode cX6_readCode 95 = .ok (.iload 5, 2) := by decide +kernel
theorem dX6_readCode_97 : decode cX6_readCode 97 = .ok (.ifCond .le 12, 3) := by decide +kernel
theorem dX6_readCode_100 : decode cX6_readCode 100 = .ok (.sipush 128, 3) := by decide +kernel
theorem dX6_readCode_103 : decode cX6_readCode 103 = .ok (.iload 5, 2) := by decide +kernel
theorem dX6_readCode_105 : decode cX6_readCode 105 = .ok (.ishr, 1) := by decide +kernel
theorem dX6_readCode_106 : decode cX6_readCode 106 = .ok (.goto 4, 3) := by decide +kernel
theorem dX6_readCode_109 : decode cX6_readCode 109 = .ok (.iconst 0, 1) := by decide +kernel
theorem dX6_readCode_110 : decode cX6_readCode 110 = .ok (.isub, 1) := by decide +kernel
theorem dX6_readCode_111 : decode cX6_readCode 111 = .ok (.istore_n 3, 1) := by decide +kernel
theorem dX6_readCode_112 : decode cX6_readCode 112 = .ok (.aload_n 0, 1) := by decide +kernel
theorem dX6_readCode_113 : decode cX6_readCode 113 = .ok (.aload_n 0, 1) := by decide +kernel
theorem dX6_readCode_114 : decode cX6_readCode 114 = .ok (.getfield 59, 3) := by decide +kernel
theorem dX6_readCode_117 : decode cX6_readCode 117 = .ok (.ifCond .ne 7, 3) := by decide +kernel
theorem dX6_readCode_120 : decode cX6_readCode 120 = .ok (.iload_n 3, 1) := by decide +kernel
theorem dX6_readCode_121 : decode cX6_readCode 121 = .ok (.ifCond .ge 7, 3) := by decide +kernel
theorem dX6_readCode_124 : decode cX6_readCode 124 = .ok (.iconst 1, 1) := by decide +kernel
theorem dX6_readCode_125 : decode cX6_readCode 125 = .ok (.goto 4, 3) := by decide +kernel
theorem dX6_readCode_128 : decode cX6_readCode 128 = .ok (.iconst 0, 1) := by decide +kernel
theorem dX6_readCode_129 : decode cX6_readCode 129 = .ok (.putfield 59, 3) := by decide +kernel
theorem dX6_readCode_132 : decode cX6_readCode 132 = .ok (.iinc 4 1, 3) := by decide +kernel
theorem dX6_readCode_135 : decode cX6_readCode 135 = .ok (.goto (-79), 3) := by decide +kernel
theorem dX6_readCode_138 : decode cX6_readCode 138 = .ok (.aload_n 0, 1) := by decide +kernel
theorem dX6_readCode_139 : decode cX6_readCode 139 = .ok (.aload_n 0, 1) := by decide +kernel
theorem dX6_readCode_140 : decode cX6_readCode 140 = .ok (.getfield 59, 3) := by decide +kernel
theorem dX6_readCode_143 : decode cX6_readCode 143 = .ok (.ifCond .ne 7, 3) := by decide +kernel
theorem dX6_readCode_146 : decode cX6_readCode 146 = .ok (.iload_n 3, 1) := by decide +kernel
theorem dX6_readCode_147 : decode cX6_readCode 147 = .ok (.ifCond .le 7, 3) := by decide +kernel
theorem dX6_readCode_150 : decode cX6_readCode 150 = .ok (.iconst 1, 1) := by decide +kernel
theorem dX6_readCode_151 : decode cX6_readCode 151 = .ok (.goto 4, 3) := by decide +kernel
theorem dX6_readCode_154 : decode cX6_readCode 154 = .ok (.iconst 0, 1) := by decide +kernel
theorem dX6_readCode_155 : decode cX6_readCode 155 = .ok (.putfield 59, 3) := by decide +kernel
theorem dX6_readCode_158 : decode cX6_readCode 158 = .ok (.return_, 1) := by decide +kernel
theorem dX6_wordOf_0 : decode cX6_wordOf 0 = .ok (.aload_n 0, 1) := by decide +kernel
theorem dX6_wordOf_1 : decode cX6_wordOf 1 = .ok (.getfield 26, 3) := by decide +kernel
theorem dX6_wordOf_4 : decode cX6_wordOf 4 = .ok (.bipush 32, 2) := by decide +kernel
theorem dX6_wordOf_6 : decode cX6_wordOf 6 = .ok (.iload_n 1, 1) := by decide +kernel
theorem dX6_wordOf_7 : decode cX6_wordOf 7 = .ok (.imul, 1) := by decide +kernel
theorem dX6_wordOf_8 : decode cX6_wordOf 8 = .ok (.iload_n 2, 1) := by decide +kernel
theorem dX6_wordOf_9 : decode cX6_wordOf 9 = .ok (.iadd, 1) := by decide +kernel
theorem dX6_wordOf_10 : decode cX6_wordOf 10 = .ok (.iaload, 1) := by decide +kernel
theorem dX6_wordOf_11 : decode cX6_wordOf 11 = .ok (.istore_n 3, 1) := by decide +kernel
theorem dX6_wordOf_12 : decode cX6_wordOf 12 = .ok (.iconst 0, 1) := by decide +kernel
theorem dX6_wordOf_13 : decode cX6_wordOf 13 = .ok (.istore 4, 2) := by decide +kernel
theorem dX6_wordOf_15 : decode cX6_wordOf 15 = .ok (.iconst 0, 1) := by decide +kernel
theorem dX6_wordOf_16 : decode cX6_wordOf 16 = .ok (.istore 5, 2) := by decide +kernel
theorem dX6_wordOf_18 : decode cX6_wordOf 18 = .ok (.iload 5, 2) := by decide +kernel
theorem dX6_wordOf_20 : decode cX6_wordOf 20 = .ok (.bipush 32, 2) := by decide +kernel
theorem dX6_wordOf_22 : decode cX6_wordOf 22 = .ok (.if_icmp .ge 61, 3) := by decide +kernel
theorem dX6_wordOf_25 : decode cX6_wordOf 25 = .ok (.aload_n 0, 1) := by decide +kernel
theorem dX6_wordOf_26 : decode cX6_wordOf 26 = .ok (.getfield 26, 3) := by decide +kernel
theorem dX6_wordOf_29 : decode cX6_wordOf 29 = .ok (.bipush 32, 2) := by decide +kernel
theorem dX6_wordOf_31 : decode cX6_wordOf 31 = .ok (.iload_n 1, 1) := by decide +kernel
theorem dX6_wordOf_32 : decode cX6_wordOf 32 = .ok (.imul, 1) := by decide +kernel
theorem dX6_wordOf_33 : decode cX6_wordOf 33 = .ok (.iload 5, 2) := by decide +kernel
theorem dX6_wordOf_35 : decode cX6_wordOf 35 = .ok (.iadd, 1) := by decide +kernel
theorem dX6_wordOf_36 : decode cX6_wordOf 36 = .ok (.iaload, 1) := by decide +kernel
theorem dX6_wordOf_37 : decode cX6_wordOf 37 = .ok (.istore 6, 2) := by decide +kernel
theorem dX6_wordOf_39 : decode cX6_wordOf 39 = .ok (.iload 4, 2) := by decide +kernel
theorem dX6_wordOf_41 : decode cX6_wordOf 41 = .ok (.iload 6, 2) := by decide +kernel
theorem dX6_wordOf_43 : decode cX6_wordOf 43 = .ok (.ifCond .le 30, 3) := by decide +kernel
theorem dX6_wordOf_46 : decode cX6_wordOf 46 = .ok (.iload 6, 2) := by decide +kernel
theorem dX6_wordOf_48 : decode cX6_wordOf 48 = .ok (.iload_n 3, 1) := by decide +kernel
theorem dX6_wordOf_49 : decode cX6_wordOf 49 = .ok (.if_icmp .lt 15, 3) := by decide +kernel
theorem dX6_wordOf_52 : decode cX6_wordOf 52 = .ok (.iload 6, 2) := by decide +kernel
theorem dX6_wordOf_54 : decode cX6_wordOf 54 = .ok (.iload_n 3, 1) := by decide +kernel
theorem dX6_wordOf_55 : decode cX6_wordOf 55 = .ok (.if_icmp .ne 18, 3) := by decide +kernel
theorem dX6_wordOf_58 : decode cX6_wordOf 58 = .ok (.iload 5, 2) := by decide +kernel
theorem dX6_wordOf_60 : decode cX6_wordOf 60 = .ok (.iload_n 2, 1) := by decide +kernel
theorem dX6_wordOf_61 : decode cX6_wordOf 61 = .ok (.if_icmp .ge 12, 3) := by decide +kernel
theorem dX6_wordOf_64 : decode cX6_wordOf 64 = .ok (.iconst 1, 1) := by decide +kernel
theorem dX6_wordOf_65 : decode cX6_wordOf 65 = .ok (.iload_n 3, 1) := by decide +kernel
theorem dX6_wordOf_66 : decode cX6_wordOf 66 = .ok (.iload 6, 2) := by decide +kernel
theorem dX6_wordOf_68 : decode cX6_wordOf 68 = .ok (.isub, 1) := by decide +kernel
theorem dX6_wordOf_69 : decode cX6_wordOf 69 = .ok (.ishl, 1) := by decide +kernel
theorem dX6_wordOf_70 : decode cX6_wordOf 70 = .ok (.goto 4, 3) := by decide +kernel
theorem dX6_wordOf_73 : decode cX6_wordOf 73 = .ok (.iconst 0, 1) := by decide +kernel
theorem dX6_wordOf_74 : decode cX6_wordOf 74 = .ok (.iadd, 1) := by decide +kernel
theorem dX6_wordOf_75 : decode cX6_wordOf 75 = .ok (.istore 4, 2) := by decide +kernel
theorem dX6_wordOf_77 : decode cX6_wordOf 77 = .ok (.iinc 5 1, 3) := by decide +kernel
theorem dX6_wordOf_80 : decode cX6_wordOf 80 = .ok (.goto (-62), 3) := by decide +kernel
theorem dX6_wordOf_83 : decode cX6_wordOf 83 = .ok (.iload 4, 2) := by decide +kernel
theorem dX6_wordOf_85 : decode cX6_wordOf 85 = .ok (.ireturn, 1) := by decide +kernel
theorem dX6_symbol_0 : decode cX6_symbol 0 = .ok (.aload_n 0, 1) := by decide +kernel
theorem dX6_symbol_1 : decode cX6_symbol 1 = .ok (.getfield 29, 3) := by decide +kernel
theorem dX6_symbol_4 : decode cX6_symbol 4 = .ok (.iload_n 1, 1) := by decide +kernel
theorem dX6_symbol_5 : decode cX6_symbol 5 = .ok (.iaload, 1) := by decide +kernel
theorem dX6_symbol_6 : decode cX6_symbol 6 = .ok (.iconst (-1), 1) := by decide +kernel
theorem dX6_symbol_7 : decode cX6_symbol 7 = .ok (.if_icmp .ne 10, 3) := by decide +kernel
theorem dX6_symbol_10 : decode cX6_symbol 10 = .ok (.aload_n 0, 1) := by decide +kernel
theorem dX6_symbol_11 : decode cX6_symbol 11 = .ok (.getfield 59, 3) := by decide +kernel
theorem dX6_symbol_14 : decode cX6_symbol 14 = .ok (.ifCond .eq 21, 3) := by decide +kernel
theorem dX6_symbol_17 : decode cX6_symbol 17 = .ok (.aload_n 0, 1) := by decide +kernel
theorem dX6_symbol_18 : decode cX6_symbol 18 = .ok (.getfield 59, 3) := by decide +kernel
theorem dX6_symbol_21 : decode cX6_symbol 21 = .ok (.ifCond .eq 7, 3) := by decide +kernel
theorem dX6_symbol_24 : decode cX6_symbol 24 = .ok (.iconst 0, 1) := by decide +kernel
theorem dX6_symbol_25 : decode cX6_symbol 25 = .ok (.goto 9, 3) := by decide +kernel
theorem dX6_symbol_28 : decode cX6_symbol 28 = .ok (.aload_n 0, 1) := by decide +kernel
theorem dX6_symbol_29 : decode cX6_symbol 29 = .ok (.getfield 29, 3) := by decide +kernel
theorem dX6_symbol_32 : decode cX6_symbol 32 = .ok (.iload_n 1, 1) := by decide +kernel
theorem dX6_symbol_33 : decode cX6_symbol 33 = .ok (.iaload, 1) := by decide +kernel
theorem dX6_symbol_34 : decode cX6_symbol 34 = .ok (.ireturn, 1) := by decide +kernel
theorem dX6_symbol_35 : decode cX6_symbol 35 = .ok (.iconst 0, 1) := by decide +kernel
theorem dX6_symbol_36 : decode cX6_symbol 36 = .ok (.istore_n 2, 1) := by decide +kernel
theorem dX6_symbol_37 : decode cX6_symbol 37 = .ok (.iconst 1, 1) := by decide +kernel
theorem dX6_symbol_38 : decode cX6_symbol 38 = .ok (.istore_n 3, 1) := by decide +kernel
theorem dX6_symbol_39 : decode cX6_symbol 39 = .ok (.iload_n 3, 1) := by decide +kernel
theorem dX6_symbol_40 : decode cX6_symbol 40 = .ok (.bipush 8, 2) := by decide +kernel
theorem dX6_symbol_42 : decode cX6_symbol 42 = .ok (.if_icmp .ge 72, 3) := by decide +kernel
theorem dX6_symbol_45 : decode cX6_symbol 45 = .ok (.iconst 2, 1) := by decide +kernel
theorem dX6_symbol_46 : decode cX6_symbol 46 = .ok (.iload_n 2, 1) := by decide +kernel
theorem dX6_symbol_47 : decode cX6_symbol 47 = .ok (.imul, 1) := by decide +kernel
theorem dX6_symbol_48 : decode cX6_symbol 48 = .ok (.aload_n 0, 1) := by decide +kernel
theorem dX6_symbol_49 : decode cX6_symbol 49 = .ok (.iconst 1, 1) := by decide +kernel
theorem dX6_symbol_50 : decode cX6_symbol 50 = .ok (.invokevirtual 66, 3) := by decide +kernel
theorem dX6_symbol_53 : decode cX6_symbol 53 = .ok (.iadd, 1) := by decide +kernel
theorem dX6_symbol_54 : decode cX6_symbol 54 = .ok (.istore_n 2, 1) := by decide +kernel
theorem dX6_symbol_55 : decode cX6_symbol 55 = .ok (.iconst 0, 1) := by decide +kernel
theorem dX6_symbol_56 : decode cX6_symbol 56 = .ok (.istore 4, 2) := by decide +kernel
theorem dX6_symbol_58 : decode cX6_symbol 58 = .ok (.iload 4, 2) := by decide +kernel
theorem dX6_symbol_60 : decode cX6_symbol 60 = .ok (.bipush 32, 2) := by decide +kernel
theorem dX6_symbol_62 : decode cX6_symbol 62 = .ok (.if_icmp .ge 46, 3) := by decide +kernel
theorem dX6_symbol_65 : decode cX6_symbol 65 = .ok (.aload_n 0, 1) := by decide +kernel
theorem dX6_symbol_66 : decode cX6_symbol 66 = .ok (.getfield 59, 3) := by decide +kernel
theorem dX6_symbol_69 : decode cX6_symbol 69 = .ok (.ifCond .ne 39, 3) := by decide +kernel
theorem dX6_symbol_72 : decode cX6_symbol 72 = .ok (.aload_n 0, 1) := by decide +kernel
theorem dX6_symbol_73 : decode cX6_symbol 73 = .ok (.getfield 26, 3) := by decide +kernel
theorem dX6_symbol_76 : decode cX6_symbol 76 = .ok (.bipush 32, 2) := by decide +kernel
theorem dX6_symbol_78 : decode cX6_symbol 78 = .ok (.iload_n 1, 1) := by decide +kernel
theorem dX6_symbol_79 : decode cX6_symbol 79 = .ok (.imul, 1) := by decide +kernel
theorem dX6_symbol_80 : decode cX6_symbol 80 = .ok (.iload 4, 2) := by decide +kernel
theorem dX6_symbol_82 : decode cX6_symbol 82 = .ok (.iadd, 1) := by decide +kernel
theorem dX6_symbol_83 : decode cX6_symbol 83 = .ok (.iaload, 1) := by decide +kernel
theorem dX6_symbol_84 : decode cX6_symbol 84 = .ok (.iload_n 3, 1) := by decide +kernel
theorem dX6_symbol_85 : decode cX6_symbol 85 = .ok (.if_icmp .ne 17, 3) := by decide +kernel
theorem dX6_symbol_88 : decode cX6_symbol 88 = .ok (.aload_n 0, 1) := by decide +kernel
theorem dX6_symbol_89 : decode cX6_symbol 89 = .ok (.iload_n 1, 1) := by decide +kernel
theorem dX6_symbol_90 : decode cX6_symbol 90 = .ok (.iload 4, 2) := by decide +kernel
theorem dX6_symbol_92 : decode cX6_symbol 92 = .ok (.invokevirtual 77, 3) := by decide +kernel
theorem dX6_symbol_95 : decode cX6_symbol 95 = .ok (.iload_n 2, 1) := by decide +kernel
theorem dX6_symbol_96 : decode cX6_symbol 96 = .ok (.if_icmp .ne 6, 3) := by decide +kernel
theorem dX6_symbol_99 : decode cX6_symbol 99 = .ok (.iload 4, 2) := by decide +kernel
theorem dX6_symbol_101 : decode cX6_symbol 101 = .ok (.ireturn, 1) := by decide +kernel
theorem dX6_symbol_102 : decode cX6_symbol 102 = .ok (.iinc 4 1, 3) := by decide +kernel
theorem dX6_symbol_105 : decode cX6_symbol 105 = .ok (.goto (-47), 3) := by decide +kernel
theorem dX6_symbol_108 : decode cX6_symbol 108 = .ok (.iinc 3 1, 3) := by decide +kernel
theorem dX6_symbol_111 : decode cX6_symbol 111 = .ok (.goto (-72), 3) := by decide +kernel
theorem dX6_symbol_114 : decode cX6_symbol 114 = .ok (.iconst 0, 1) := by decide +kernel
theorem dX6_symbol_115 : decode cX6_symbol 115 = .ok (.ireturn, 1) := by decide +kernel
theorem dX6_plain_0 : decode cX6_plain 0 = .ok (.iconst 0, 1) := by decide +kernel
theorem dX6_plain_1 : decode cX6_plain 1 = .ok (.istore_n 2, 1) := by decide +kernel
theorem dX6_plain_2 : decode cX6_plain 2 = .ok (.iload_n 2, 1) := by decide +kernel
theorem dX6_plain_3 : decode cX6_plain 3 = .ok (.iload_n 1, 1) := by decide +kernel
theorem dX6_plain_4 : decode cX6_plain 4 = .ok (.if_icmp .ge 46, 3) := by decide +kernel
theorem dX6_plain_7 : decode cX6_plain 7 = .ok (.aload_n 0, 1) := by decide +kernel
theorem dX6_plain_8 : decode cX6_plain 8 = .ok (.getfield 59, 3) := by decide +kernel
theorem dX6_plain_11 : decode cX6_plain 11 = .ok (.ifCond .ne 39, 3) := by decide +kernel
theorem dX6_plain_14 : decode cX6_plain 14 = .ok (.aload_n 0, 1) := by decide +kernel
theorem dX6_plain_15 : decode cX6_plain 15 = .ok (.aload_n 0, 1) := by decide +kernel
theorem dX6_plain_16 : decode cX6_plain 16 = .ok (.iconst 5, 1) := by decide +kernel
theorem dX6_plain_17 : decode cX6_plain 17 = .ok (.invokevirtual 66, 3) := by decide +kernel
theorem dX6_plain_20 : decode cX6_plain 20 = .ok (.invokevirtual 81, 3) := by decide +kernel
theorem dX6_plain_23 : decode cX6_plain 23 = .ok (.aload_n 0, 1) := by decide +kernel
theorem dX6_plain_24 : decode cX6_plain 24 = .ok (.getfield 23, 3) := by decide +kernel
theorem dX6_plain_27 : decode cX6_plain 27 = .ok (.iconst 1, 1) := by decide +kernel
theorem dX6_plain_28 : decode cX6_plain 28 = .ok (.dup2, 1) := by decide +kernel
theorem dX6_plain_29 : decode cX6_plain 29 = .ok (.iaload, 1) := by decide +kernel
theorem dX6_plain_30 : decode cX6_plain 30 = .ok (.aload_n 0, 1) := by decide +kernel
theorem dX6_plain_31 : decode cX6_plain 31 = .ok (.getfield 59, 3) := by decide +kernel
theorem dX6_plain_34 : decode cX6_plain 34 = .ok (.ifCond .eq 7, 3) := by decide +kernel
theorem dX6_plain_37 : decode cX6_plain 37 = .ok (.iconst 0, 1) := by decide +kernel
theorem dX6_plain_38 : decode cX6_plain 38 = .ok (.goto 4, 3) := by decide +kernel
theorem dX6_plain_41 : decode cX6_plain 41 = .ok (.iconst 1, 1) := by decide +kernel
theorem dX6_plain_42 : decode cX6_plain 42 = .ok (.iadd, 1) := by decide +kernel
theorem dX6_plain_43 : decode cX6_plain 43 = .ok (.iastore, 1) := by decide +kernel
theorem dX6_plain_44 : decode cX6_plain 44 = .ok (.iinc 2 1, 3) := by decide +kernel
theorem dX6_plain_47 : decode cX6_plain 47 = .ok (.goto (-45), 3) := by decide +kernel
theorem dX6_plain_50 : decode cX6_plain 50 = .ok (.return_, 1) := by decide +kernel
theorem dX6_add_0 : decode cX6_add 0 = .ok (.aload_n 0, 1) := by decide +kernel
theorem dX6_add_1 : decode cX6_add 1 = .ok (.getfield 59, 3) := by decide +kernel
theorem dX6_add_4 : decode cX6_add 4 = .ok (.ifCond .ne 23, 3) := by decide +kernel
theorem dX6_add_7 : decode cX6_add 7 = .ok (.aload_n 0, 1) := by decide +kernel
theorem dX6_add_8 : decode cX6_add 8 = .ok (.getfield 17, 3) := by decide +kernel
theorem dX6_add_11 : decode cX6_add 11 = .ok (.aload_n 0, 1) := by decide +kernel
theorem dX6_add_12 : decode cX6_add 12 = .ok (.getfield 85, 3) := by decide +kernel
theorem dX6_add_15 : decode cX6_add 15 = .ok (.iload_n 1, 1) := by decide +kernel
theorem dX6_add_16 : decode cX6_add 16 = .ok (.iastore, 1) := by decide +kernel
theorem dX6_add_17 : decode cX6_add 17 = .ok (.aload_n 0, 1) := by decide +kernel
theorem dX6_add_18 : decode cX6_add 18 = .ok (.dup, 1) := by decide +kernel
theorem dX6_add_19 : decode cX6_add 19 = .ok (.getfield 85, 3) := by decide +kernel
theorem dX6_add_22 : decode cX6_add 22 = .ok (.iconst 1, 1) := by decide +kernel
theorem dX6_add_23 : decode cX6_add 23 = .ok (.iadd, 1) := by decide +kernel
theorem dX6_add_24 : decode cX6_add 24 = .ok (.putfield 85, 3) := by decide +kernel
theorem dX6_add_27 : decode cX6_add 27 = .ok (.return_, 1) := by decide +kernel
theorem dX6_readMap_0 : decode cX6_readMap 0 = .ok (.iconst 0, 1) := by decide +kernel
theorem dX6_readMap_1 : decode cX6_readMap 1 = .ok (.istore_n 2, 1) := by decide +kernel
theorem dX6_readMap_2 : decode cX6_readMap 2 = .ok (.iload_n 2, 1) := by decide +kernel
theorem dX6_readMap_3 : decode cX6_readMap 3 = .ok (.bipush 12, 2) := by decide +kernel
theorem dX6_readMap_5 : decode cX6_readMap 5 = .ok (.if_icmp .ge 16, 3) := by decide +kernel
theorem dX6_readMap_8 : decode cX6_readMap 8 = .ok (.aload_n 0, 1) := by decide +kernel
theorem dX6_readMap_9 : decode cX6_readMap 9 = .ok (.getfield 38, 3) := by decide +kernel
theorem dX6_readMap_12 : decode cX6_readMap 12 = .ok (.iload_n 2, 1) := by decide +kernel
theorem dX6_readMap_13 : decode cX6_readMap 13 = .ok (.iconst 0, 1) := by decide +kernel
theorem dX6_readMap_14 : decode cX6_readMap 14 = .ok (.iastore, 1) := by decide +kernel
theorem dX6_readMap_15 : decode cX6_readMap 15 = .ok (.iinc 2 1, 3) := by decide +kernel
theorem dX6_readMap_18 : decode cX6_readMap 18 = .ok (.goto (-16), 3) := by decide +kernel
theorem dX6_readMap_21 : decode cX6_readMap 21 = .ok (.iload_n 1, 1) := by decide +kernel
theorem dX6_readMap_22 : decode cX6_readMap 22 = .ok (.iconst 1, 1) := by decide +kernel
theorem dX6_readMap_23 : decode cX6_readMap 23 = .ok (.if_icmp .ne 4, 3) := by decide +kernel
theorem dX6_readMap_26 : decode cX6_readMap 26 = .ok (.return_, 1) := by decide +kernel
theorem dX6_readMap_27 : decode cX6_readMap 27 = .ok (.iconst 0, 1) := by decide +kernel
theorem dX6_readMap_28 : decode cX6_readMap 28 = .ok (.istore_n 2, 1) := by decide +kernel
theorem dX6_readMap_29 : decode cX6_readMap 29 = .ok (.iload_n 2, 1) := by decide +kernel
theorem dX6_readMap_30 : decode cX6_readMap 30 = .ok (.iconst 4, 1) := by decide +kernel
theorem dX6_readMap_31 : decode cX6_readMap 31 = .ok (.aload_n 0, 1) := by decide +kernel
theorem dX6_readMap_32 : decode cX6_readMap 32 = .ok (.getfield 88, 3) := by decide +kernel
theorem dX6_readMap_35 : decode cX6_readMap 35 = .ok (.imul, 1) := by decide +kernel
theorem dX6_readMap_36 : decode cX6_readMap 36 = .ok (.if_icmp .ge 53, 3) := by decide +kernel
theorem dX6_readMap_39 : decode cX6_readMap 39 = .ok (.aload_n 0, 1) := by decide +kernel
theorem dX6_readMap_40 : decode cX6_readMap 40 = .ok (.getfield 59, 3) := by decide +kernel
theorem dX6_readMap_43 : decode cX6_readMap 43 = .ok (.ifCond .ne 46, 3) := by decide +kernel
theorem dX6_readMap_46 : decode cX6_readMap 46 = .ok (.aload_n 0, 1) := by decide +kernel
theorem dX6_readMap_47 : decode cX6_readMap 47 = .ok (.getfield 38, 3) := by decide +kernel
theorem dX6_readMap_50 : decode cX6_readMap 50 = .ok (.iload_n 2, 1) := by decide +kernel
theorem dX6_readMap_51 : decode cX6_readMap 51 = .ok (.aload_n 0, 1) := by decide +kernel
theorem dX6_readMap_52 : decode cX6_readMap 52 = .ok (.iconst 2, 1) := by decide +kernel
theorem dX6_readMap_53 : decode cX6_readMap 53 = .ok (.invokevirtual 66, 3) := by decide +kernel
theorem dX6_readMap_56 : decode cX6_readMap 56 = .ok (.iastore, 1) := by decide +kernel
theorem dX6_readMap_57 : decode cX6_readMap 57 = .ok (.aload_n 0, 1) := by decide +kernel
theorem dX6_readMap_58 : decode cX6_readMap 58 = .ok (.aload_n 0, 1) := by decide +kernel
theorem dX6_readMap_59 : decode cX6_readMap 59 = .ok (.getfield 59, 3) := by decide +kernel
theorem dX6_readMap_62 : decode cX6_readMap 62 = .ok (.ifCond .ne 13, 3) := by decide +kernel
theorem dX6_readMap_65 : decode cX6_readMap 65 = .ok (.aload_n 0, 1) := by decide +kernel
theorem dX6_readMap_66 : decode cX6_readMap 66 = .ok (.getfield 38, 3) := by decide +kernel
theorem dX6_readMap_69 : decode cX6_readMap 69 = .ok (.iload_n 2, 1) := by decide +kernel
theorem dX6_readMap_70 : decode cX6_readMap 70 = .ok (.iaload, 1) := by decide +kernel
theorem dX6_readMap_71 : decode cX6_readMap 71 = .ok (.iload_n 1, 1) := by decide +kernel
theorem dX6_readMap_72 : decode cX6_readMap 72 = .ok (.if_icmp .lt 7, 3) := by decide +kernel
theorem dX6_readMap_75 : decode cX6_readMap 75 = .ok (.iconst 1, 1) := by decide +kernel
theorem dX6_readMap_76 : decode cX6_readMap 76 = .ok (.goto 4, 3) := by decide +kernel
theorem dX6_readMap_79 : decode cX6_readMap 79 = .ok (.iconst 0, 1) := by decide +kernel
theorem dX6_readMap_80 : decode cX6_readMap 80 = .ok (.putfield 59, 3) := by decide +kernel
theorem dX6_readMap_83 : decode cX6_readMap 83 = .ok (.iinc 2 1, 3) := by decide +kernel
theorem dX6_readMap_86 : decode cX6_readMap 86 = .ok (.goto (-57), 3) := by decide +kernel
theorem dX6_readMap_89 : decode cX6_readMap 89 = .ok (.aload_n 0, 1) := by decide +kernel
theorem dX6_readMap_90 : decode cX6_readMap 90 = .ok (.iconst 1, 1) := by decide +kernel
theorem dX6_readMap_91 : decode cX6_readMap 91 = .ok (.invokevirtual 66, 3) := by decide +kernel
theorem dX6_readMap_94 : decode cX6_readMap 94 = .ok (.iconst 1, 1) := by decide +kernel
theorem dX6_readMap_95 : decode cX6_readMap 95 = .ok (.if_icmp .ne 7, 3) := by decide +kernel
theorem dX6_readMap_98 : decode cX6_readMap 98 = .ok (.iconst 1, 1) := by decide +kernel
theorem dX6_readMap_99 : decode cX6_readMap 99 = .ok (.goto 4, 3) := by decide +kernel
theorem dX6_readMap_102 : decode cX6_readMap 102 = .ok (.iconst 0, 1) := by decide +kernel
theorem dX6_readMap_103 : decode cX6_readMap 103 = .ok (.istore_n 2, 1) := by decide +kernel
theorem dX6_readMap_104 : decode cX6_readMap 104 = .ok (.iconst 0, 1) := by decide +kernel
theorem dX6_readMap_105 : decode cX6_readMap 105 = .ok (.istore_n 3, 1) := by decide +kernel
theorem dX6_readMap_106 : decode cX6_readMap 106 = .ok (.iload_n 3, 1) := by decide +kernel
theorem dX6_readMap_107 : decode cX6_readMap 107 = .ok (.iconst 4, 1) := by decide +kernel
theorem dX6_readMap_108 : decode cX6_readMap 108 = .ok (.if_icmp .ge 16, 3) := by decide +kernel
theorem dX6_readMap_111 : decode cX6_readMap 111 = .ok (.aload_n 0, 1) := by decide +kernel
theorem dX6_readMap_112 : decode cX6_readMap 112 = .ok (.getfield 41, 3) := by decide +kernel
theorem dX6_readMap_115 : decode cX6_readMap 115 = .ok (.iload_n 3, 1) := by decide +kernel
theorem dX6_readMap_116 : decode cX6_readMap 116 = .ok (.iload_n 3, 1) := by decide +kernel
theorem dX6_readMap_117 : decode cX6_readMap 117 = .ok (.iastore, 1) := by decide +kernel
theorem dX6_readMap_118 : decode cX6_readMap 118 = .ok (.iinc 3 1, 3) := by decide +kernel
theorem dX6_readMap_121 : decode cX6_readMap 121 = .ok (.goto (-15), 3) := by decide +kernel
theorem dX6_readMap_124 : decode cX6_readMap 124 = .ok (.iconst 0, 1) := by decide +kernel
theorem dX6_readMap_125 : decode cX6_readMap 125 = .ok (.istore_n 3, 1) := by decide +kernel
theorem dX6_readMap_126 : decode cX6_readMap 126 = .ok (.iload_n 3, 1) := by decide +kernel
theorem dX6_readMap_127 : decode cX6_readMap 127 = .ok (.iconst 4, 1) := by decide +kernel
theorem dX6_readMap_128 : decode cX6_readMap 128 = .ok (.aload_n 0, 1) := by decide +kernel
theorem dX6_readMap_129 : decode cX6_readMap 129 = .ok (.getfield 88, 3) := by decide +kernel
theorem dX6_readMap_132 : decode cX6_readMap 132 = .ok (.imul, 1) := by decide +kernel
theorem dX6_readMap_133 : decode cX6_readMap 133 = .ok (.if_icmp .ge 84, 3) := by decide +kernel
theorem dX6_readMap_136 : decode cX6_readMap 136 = .ok (.iload_n 2, 1) := by decide +kernel
theorem dX6_readMap_137 : decode cX6_readMap 137 = .ok (.ifCond .eq 80, 3) := by decide +kernel
theorem dX6_readMap_140 : decode cX6_readMap 140 = .ok (.aload_n 0, 1) := by decide +kernel
theorem dX6_readMap_141 : decode cX6_readMap 141 = .ok (.getfield 59, 3) := by decide +kernel
theorem dX6_readMap_144 : decode cX6_readMap 144 = .ok (.ifCond .ne 73, 3) := by decide +kernel
theorem dX6_readMap_147 : decode cX6_readMap 147 = .ok (.aload_n 0, 1) := by decide +kernel
theorem dX6_readMap_148 : decode cX6_readMap 148 = .ok (.getfield 38, 3) := by decide +kernel
theorem dX6_readMap_151 : decode cX6_readMap 151 = .ok (.iload_n 3, 1) := by decide +kernel
theorem dX6_readMap_152 : decode cX6_readMap 152 = .ok (.iaload, 1) := by decide +kernel
theorem dX6_readMap_153 : decode cX6_readMap 153 = .ok (.istore 4, 2) := by decide +kernel
theorem dX6_readMap_155 : decode cX6_readMap 155 = .ok (.aload_n 0, 1) := by decide +kernel
theorem dX6_readMap_156 : decode cX6_readMap 156 = .ok (.getfield 41, 3) := by decide +kernel
theorem dX6_readMap_159 : decode cX6_readMap 159 = .ok (.iload 4, 2) := by decide +kernel
theorem dX6_readMap_161 : decode cX6_readMap 161 = .ok (.iaload, 1) := by decide +kernel
theorem dX6_readMap_162 : decode cX6_readMap 162 = .ok (.istore 5, 2) := by decide +kernel
theorem dX6_readMap_164 : decode cX6_readMap 164 = .ok (.iload 4, 2) := by decide +kernel
theorem dX6_readMap_166 : decode cX6_readMap 166 = .ok (.istore 6, 2) := by decide +kernel
theorem dX6_readMap_168 : decode cX6_readMap 168 = .ok (.iload 6, 2) := by decide +kernel
theorem dX6_readMap_170 : decode cX6_readMap 170 = .ok (.ifCond .le 25, 3) := by decide +kernel
theorem dX6_readMap_173 : decode cX6_readMap 173 = .ok (.aload_n 0, 1) := by decide +kernel
theorem dX6_readMap_174 : decode cX6_readMap 174 = .ok (.getfield 41, 3) := by decide +kernel
theorem dX6_readMap_177 : decode cX6_readMap 177 = .ok (.iload 6, 2) := by decide +kernel
theorem dX6_readMap_179 : decode cX6_readMap 179 = .ok (.aload_n 0, 1) := by decide +kernel
theorem dX6_readMap_180 : decode cX6_readMap 180 = .ok (.getfield 41, 3) := by decide +kernel
theorem dX6_readMap_183 : decode cX6_readMap 183 = .ok (.iload 6, 2) := by decide +kernel
theorem dX6_readMap_185 : decode cX6_readMap 185 = .ok (.iconst 1, 1) := by decide +kernel
theorem dX6_readMap_186 : decode cX6_readMap 186 = .ok (.isub, 1) := by decide +kernel
theorem dX6_readMap_187 : decode cX6_readMap 187 = .ok (.iaload, 1) := by decide +kernel
theorem dX6_readMap_188 : decode cX6_readMap 188 = .ok (.iastore, 1) := by decide +kernel
theorem dX6_readMap_189 : decode cX6_readMap 189 = .ok (.iinc 6 (-1), 3) := by decide +kernel
theorem dX6_readMap_192 : decode cX6_readMap 192 = .ok (.goto (-24), 3) := by decide +kernel
theorem dX6_readMap_195 : decode cX6_readMap 195 = .ok (.aload_n 0, 1) := by decide +kernel
theorem dX6_readMap_196 : decode cX6_readMap 196 = .ok (.getfield 41, 3) := by decide +kernel
theorem dX6_readMap_199 : decode cX6_readMap 199 = .ok (.iconst 0, 1) := by decide +kernel
theorem dX6_readMap_200 : decode cX6_readMap 200 = .ok (.iload 5, 2) := by decide +kernel
theorem dX6_readMap_202 : decode cX6_readMap 202 = .ok (.iastore, 1) := by decide +kernel
theorem dX6_readMap_203 : decode cX6_readMap 203 = .ok (.aload_n 0, 1) := by decide +kernel
theorem dX6_readMap_204 : decode cX6_readMap 204 = .ok (.getfield 38, 3) := by decide +kernel
theorem dX6_readMap_207 : decode cX6_readMap 207 = .ok (.iload_n 3, 1) := by decide +kernel
theorem dX6_readMap_208 : decode cX6_readMap 208 = .ok (.iload 5, 2) := by decide +kernel
theorem dX6_readMap_210 : decode cX6_readMap 210 = .ok (.iastore, 1) := by decide +kernel
theorem dX6_readMap_211 : decode cX6_readMap 211 = .ok (.iinc 3 1, 3) := by decide +kernel
theorem dX6_readMap_214 : decode cX6_readMap 214 = .ok (.goto (-88), 3) := by decide +kernel
theorem dX6_readMap_217 : decode cX6_readMap 217 = .ok (.return_, 1) := by decide +kernel
theorem dX6_readHead_0 : decode cX6_readHead 0 = .ok (.aload_n 0, 1) := by decide +kernel
theorem dX6_readHead_1 : decode cX6_readHead 1 = .ok (.aload_n 0, 1) := by decide +kernel
theorem dX6_readHead_2 : decode cX6_readHead 2 = .ok (.iconst 2, 1) := by decide +kernel
theorem dX6_readHead_3 : decode cX6_readHead 3 = .ok (.invokevirtual 66, 3) := by decide +kernel
theorem dX6_readHead_6 : decode cX6_readHead 6 = .ok (.iconst 1, 1) := by decide +kernel
theorem dX6_readHead_7 : decode cX6_readHead 7 = .ok (.iadd, 1) := by decide +kernel
theorem dX6_readHead_8 : decode cX6_readHead 8 = .ok (.putfield 88, 3) := by decide +kernel
theorem dX6_readHead_11 : decode cX6_readHead 11 = .ok (.aload_n 0, 1) := by decide +kernel
theorem dX6_readHead_12 : decode cX6_readHead 12 = .ok (.aload_n 0, 1) := by decide +kernel
theorem dX6_readHead_13 : decode cX6_readHead 13 = .ok (.getfield 59, 3) := by decide +kernel
theorem dX6_readHead_16 : decode cX6_readHead 16 = .ok (.ifCond .ne 11, 3) := by decide +kernel
theorem dX6_readHead_19 : decode cX6_readHead 19 = .ok (.aload_n 0, 1) := by decide +kernel
theorem dX6_readHead_20 : decode cX6_readHead 20 = .ok (.getfield 88, 3) := by decide +kernel
theorem dX6_readHead_23 : decode cX6_readHead 23 = .ok (.iconst 3, 1) := by decide +kernel
theorem dX6_readHead_24 : decode cX6_readHead 24 = .ok (.if_icmp .le 7, 3) := by decide +kernel
theorem dX6_readHead_27 : decode cX6_readHead 27 = .ok (.iconst 1, 1) := by decide +kernel
theorem dX6_readHead_28 : decode cX6_readHead 28 = .ok (.goto 4, 3) := by decide +kernel
theorem dX6_readHead_31 : decode cX6_readHead 31 = .ok (.iconst 0, 1) := by decide +kernel
theorem dX6_readHead_32 : decode cX6_readHead 32 = .ok (.putfield 59, 3) := by decide +kernel
theorem dX6_readHead_35 : decode cX6_readHead 35 = .ok (.aload_n 0, 1) := by decide +kernel
theorem dX6_readHead_36 : decode cX6_readHead 36 = .ok (.getfield 59, 3) := by decide +kernel
theorem dX6_readHead_39 : decode cX6_readHead 39 = .ok (.ifCond .eq 4, 3) := by decide +kernel
theorem dX6_readHead_42 : decode cX6_readHead 42 = .ok (.return_, 1) := by decide +kernel
theorem dX6_readHead_43 : decode cX6_readHead 43 = .ok (.aload_n 0, 1) := by decide +kernel
theorem dX6_readHead_44 : decode cX6_readHead 44 = .ok (.iconst 0, 1) := by decide +kernel
theorem dX6_readHead_45 : decode cX6_readHead 45 = .ok (.putfield 91, 3) := by decide +kernel
theorem dX6_readHead_48 : decode cX6_readHead 48 = .ok (.aload_n 0, 1) := by decide +kernel
theorem dX6_readHead_49 : decode cX6_readHead 49 = .ok (.iconst 1, 1) := by decide +kernel
theorem dX6_readHead_50 : decode cX6_readHead 50 = .ok (.putfield 94, 3) := by decide +kernel
theorem dX6_readHead_53 : decode cX6_readHead 53 = .ok (.aload_n 0, 1) := by decide +kernel
theorem dX6_readHead_54 : decode cX6_readHead 54 = .ok (.getfield 88, 3) := by decide +kernel
theorem dX6_readHead_57 : decode cX6_readHead 57 = .ok (.iconst 1, 1) := by decide +kernel
theorem dX6_readHead_58 : decode cX6_readHead 58 = .ok (.if_icmp .le 26, 3) := by decide +kernel
theorem dX6_readHead_61 : decode cX6_readHead 61 = .ok (.aload_n 0, 1) := by decide +kernel
theorem dX6_readHead_62 : decode cX6_readHead 62 = .ok (.bipush 6, 2) := by decide +kernel
theorem dX6_readHead_64 : decode cX6_readHead 64 = .ok (.aload_n 0, 1) := by decide +kernel
theorem dX6_readHead_65 : decode cX6_readHead 65 = .ok (.getfield 88, 3) := by decide +kernel
theorem dX6_readHead_68 : decode cX6_readHead 68 = .ok (.iconst 2, 1) := by decide +kernel
theorem dX6_readHead_69 : decode cX6_readHead 69 = .ok (.iadd, 1) := by decide +kernel
theorem dX6_readHead_70 : decode cX6_readHead 70 = .ok (.invokevirtual 97, 3) := by decide +kernel
theorem dX6_readHead_73 : decode cX6_readHead 73 = .ok (.aload_n 0, 1) := by decide +kernel
theorem dX6_readHead_74 : decode cX6_readHead 74 = .ok (.aload_n 0, 1) := by decide +kernel
theorem dX6_readHead_75 : decode cX6_readHead 75 = .ok (.iconst 5, 1) := by decide +kernel
theorem dX6_readHead_76 : decode cX6_readHead 76 = .ok (.invokevirtual 66, 3) := by decide +kernel
theorem dX6_readHead_79 : decode cX6_readHead 79 = .ok (.iconst 1, 1) := by decide +kernel
theorem dX6_readHead_80 : decode cX6_readHead 80 = .ok (.iadd, 1) := by decide +kernel
theorem dX6_readHead_81 : decode cX6_readHead 81 = .ok (.putfield 100, 3) := by decide +kernel
theorem dX6_readHead_84 : decode cX6_readHead 84 = .ok (.iconst 0, 1) := by decide +kernel
theorem dX6_readHead_85 : decode cX6_readHead 85 = .ok (.istore_n 1, 1) := by decide +kernel
theorem dX6_readHead_86 : decode cX6_readHead 86 = .ok (.iload_n 1, 1) := by decide +kernel
theorem dX6_readHead_87 : decode cX6_readHead 87 = .ok (.aload_n 0, 1) := by decide +kernel
theorem dX6_readHead_88 : decode cX6_readHead 88 = .ok (.getfield 88, 3) := by decide +kernel
theorem dX6_readHead_91 : decode cX6_readHead 91 = .ok (.if_icmp .ge 20, 3) := by decide +kernel
theorem dX6_readHead_94 : decode cX6_readHead 94 = .ok (.aload_n 0, 1) := by decide +kernel
theorem dX6_readHead_95 : decode cX6_readHead 95 = .ok (.getfield 35, 3) := by decide +kernel
theorem dX6_readHead_98 : decode cX6_readHead 98 = .ok (.iload_n 1, 1) := by decide +kernel
theorem dX6_readHead_99 : decode cX6_readHead 99 = .ok (.aload_n 0, 1) := by decide +kernel
theorem dX6_readHead_100 : decode cX6_readHead 100 = .ok (.iconst 2, 1) := by decide +kernel
theorem dX6_readHead_101 : decode cX6_readHead 101 = .ok (.invokevirtual 66, 3) := by decide +kernel
theorem dX6_readHead_104 : decode cX6_readHead 104 = .ok (.iastore, 1) := by decide +kernel
theorem dX6_readHead_105 : decode cX6_readHead 105 = .ok (.iinc 1 1, 3) := by decide +kernel
theorem dX6_readHead_108 : decode cX6_readHead 108 = .ok (.goto (-22), 3) := by decide +kernel
theorem dX6_readHead_111 : decode cX6_readHead 111 = .ok (.aload_n 0, 1) := by decide +kernel
theorem dX6_readHead_112 : decode cX6_readHead 112 = .ok (.iconst 2, 1) := by decide +kernel
theorem dX6_readHead_113 : decode cX6_readHead 113 = .ok (.invokevirtual 66, 3) := by decide +kernel
theorem dX6_readHead_116 : decode cX6_readHead 116 = .ok (.iconst 1, 1) := by decide +kernel
theorem dX6_readHead_117 : decode cX6_readHead 117 = .ok (.iadd, 1) := by decide +kernel
theorem dX6_readHead_118 : decode cX6_readHead 118 = .ok (.istore_n 1, 1) := by decide +kernel
theorem dX6_readHead_119 : decode cX6_readHead 119 = .ok (.aload_n 0, 1) := by decide +kernel
theorem dX6_readHead_120 : decode cX6_readHead 120 = .ok (.getfield 59, 3) := by decide +kernel
theorem dX6_readHead_123 : decode cX6_readHead 123 = .ok (.ifCond .ne 8, 3) := by decide +kernel
theorem dX6_readHead_126 : decode cX6_readHead 126 = .ok (.aload_n 0, 1) := by decide +kernel
theorem dX6_readHead_127 : decode cX6_readHead 127 = .ok (.iload_n 1, 1) := by decide +kernel
theorem dX6_readHead_128 : decode cX6_readHead 128 = .ok (.invokevirtual 103, 3) := by decide +kernel
theorem dX6_readHead_131 : decode cX6_readHead 131 = .ok (.iconst 0, 1) := by decide +kernel
theorem dX6_readHead_132 : decode cX6_readHead 132 = .ok (.istore_n 2, 1) := by decide +kernel
theorem dX6_readHead_133 : decode cX6_readHead 133 = .ok (.iload_n 2, 1) := by decide +kernel
theorem dX6_readHead_134 : decode cX6_readHead 134 = .ok (.iload_n 1, 1) := by decide +kernel
theorem dX6_readHead_135 : decode cX6_readHead 135 = .ok (.if_icmp .ge 23, 3) := by decide +kernel
theorem dX6_readHead_138 : decode cX6_readHead 138 = .ok (.aload_n 0, 1) := by decide +kernel
theorem dX6_readHead_139 : decode cX6_readHead 139 = .ok (.getfield 59, 3) := by decide +kernel
theorem dX6_readHead_142 : decode cX6_readHead 142 = .ok (.ifCond .ne 16, 3) := by decide +kernel
theorem dX6_readHead_145 : decode cX6_readHead 145 = .ok (.aload_n 0, 1) := by decide +kernel
theorem dX6_readHead_146 : decode cX6_readHead 146 = .ok (.iload_n 2, 1) := by decide +kernel
theorem dX6_readHead_147 : decode cX6_readHead 147 = .ok (.bipush 32, 2) := by decide +kernel
theorem dX6_readHead_149 : decode cX6_readHead 149 = .ok (.invokevirtual 97, 3) := by decide +kernel
theorem dX6_readHead_152 : decode cX6_readHead 152 = .ok (.iinc 2 1, 3) := by decide +kernel
theorem dX6_readHead_155 : decode cX6_readHead 155 = .ok (.goto (-22), 3) := by decide +kernel
theorem dX6_readHead_158 : decode cX6_readHead 158 = .ok (.aload_n 0, 1) := by decide +kernel
theorem dX6_readHead_159 : decode cX6_readHead 159 = .ok (.getfield 59, 3) := by decide +kernel
theorem dX6_readHead_162 : decode cX6_readHead 162 = .ok (.ifCond .ne 10, 3) := by decide +kernel
theorem dX6_readHead_165 : decode cX6_readHead 165 = .ok (.aload_n 0, 1) := by decide +kernel
theorem dX6_readHead_166 : decode cX6_readHead 166 = .ok (.iconst 4, 1) := by decide +kernel
theorem dX6_readHead_167 : decode cX6_readHead 167 = .ok (.bipush 16, 2) := by decide +kernel
theorem dX6_readHead_169 : decode cX6_readHead 169 = .ok (.invokevirtual 97, 3) := by decide +kernel
theorem dX6_readHead_172 : decode cX6_readHead 172 = .ok (.aload_n 0, 1) := by decide +kernel
theorem dX6_readHead_173 : decode cX6_readHead 173 = .ok (.getfield 59, 3) := by decide +kernel
theorem dX6_readHead_176 : decode cX6_readHead 176 = .ok (.ifCond .ne 10, 3) := by decide +kernel
theorem dX6_readHead_179 : decode cX6_readHead 179 = .ok (.aload_n 0, 1) := by decide +kernel
theorem dX6_readHead_180 : decode cX6_readHead 180 = .ok (.iconst 5, 1) := by decide +kernel
theorem dX6_readHead_181 : decode cX6_readHead 181 = .ok (.bipush 12, 2) := by decide +kernel
theorem dX6_readHead_183 : decode cX6_readHead 183 = .ok (.invokevirtual 97, 3) := by decide +kernel
theorem dX6_readHead_186 : decode cX6_readHead 186 = .ok (.return_, 1) := by decide +kernel
theorem dX6_turn_0 : decode cX6_turn 0 = .ok (.aload_n 0, 1) := by decide +kernel
theorem dX6_turn_1 : decode cX6_turn 1 = .ok (.bipush 6, 2) := by decide +kernel
theorem dX6_turn_3 : decode cX6_turn 3 = .ok (.invokevirtual 106, 3) := by decide +kernel
theorem dX6_turn_6 : decode cX6_turn 6 = .ok (.istore_n 1, 1) := by decide +kernel
theorem dX6_turn_7 : decode cX6_turn 7 = .ok (.iload_n 1, 1) := by decide +kernel
theorem dX6_turn_8 : decode cX6_turn 8 = .ok (.ifCond .ne 10, 3) := by decide +kernel
theorem dX6_turn_11 : decode cX6_turn 11 = .ok (.aload_n 0, 1) := by decide +kernel
theorem dX6_turn_12 : decode cX6_turn 12 = .ok (.getfield 94, 3) := by decide +kernel
theorem dX6_turn_15 : decode cX6_turn 15 = .ok (.goto 25, 3) := by decide +kernel
theorem dX6_turn_18 : decode cX6_turn 18 = .ok (.iload_n 1, 1) := by decide +kernel
theorem dX6_turn_19 : decode cX6_turn 19 = .ok (.iconst 1, 1) := by decide +kernel
theorem dX6_turn_20 : decode cX6_turn 20 = .ok (.if_icmp .ne 17, 3) := by decide +kernel
theorem dX6_turn_23 : decode cX6_turn 23 = .ok (.aload_n 0, 1) := by decide +kernel
theorem dX6_turn_24 : decode cX6_turn 24 = .ok (.getfield 91, 3) := by decide +kernel
theorem dX6_turn_27 : decode cX6_turn 27 = .ok (.iconst 1, 1) := by decide +kernel
theorem dX6_turn_28 : decode cX6_turn 28 = .ok (.iadd, 1) := by decide +kernel
theorem dX6_turn_29 : decode cX6_turn 29 = .ok (.aload_n 0, 1) := by decide +kernel
theorem dX6_turn_30 : decode cX6_turn 30 = .ok (.getfield 88, 3) := by decide +kernel
theorem dX6_turn_33 : decode cX6_turn 33 = .ok (.irem, 1) := by decide +kernel
theorem dX6_turn_34 : decode cX6_turn 34 = .ok (.goto 6, 3) := by decide +kernel
theorem dX6_turn_37 : decode cX6_turn 37 = .ok (.iload_n 1, 1) := by decide +kernel
theorem dX6_turn_38 : decode cX6_turn 38 = .ok (.iconst 2, 1) := by decide +kernel
theorem dX6_turn_39 : decode cX6_turn 39 = .ok (.isub, 1) := by decide +kernel
theorem dX6_turn_40 : decode cX6_turn 40 = .ok (.istore_n 2, 1) := by decide +kernel
theorem dX6_turn_41 : decode cX6_turn 41 = .ok (.aload_n 0, 1) := by decide +kernel
theorem dX6_turn_42 : decode cX6_turn 42 = .ok (.aload_n 0, 1) := by decide +kernel
theorem dX6_turn_43 : decode cX6_turn 43 = .ok (.iconst 5, 1) := by decide +kernel
theorem dX6_turn_44 : decode cX6_turn 44 = .ok (.invokevirtual 66, 3) := by decide +kernel
theorem dX6_turn_47 : decode cX6_turn 47 = .ok (.iconst 1, 1) := by decide +kernel
theorem dX6_turn_48 : decode cX6_turn 48 = .ok (.iadd, 1) := by decide +kernel
theorem dX6_turn_49 : decode cX6_turn 49 = .ok (.putfield 100, 3) := by decide +kernel
theorem dX6_turn_52 : decode cX6_turn 52 = .ok (.aload_n 0, 1) := by decide +kernel
theorem dX6_turn_53 : decode cX6_turn 53 = .ok (.getfield 59, 3) := by decide +kernel
theorem dX6_turn_56 : decode cX6_turn 56 = .ok (.ifCond .ne 26, 3) := by decide +kernel
theorem dX6_turn_59 : decode cX6_turn 59 = .ok (.aload_n 0, 1) := by decide +kernel
theorem dX6_turn_60 : decode cX6_turn 60 = .ok (.aload_n 0, 1) := by decide +kernel
theorem dX6_turn_61 : decode cX6_turn 61 = .ok (.getfield 91, 3) := by decide +kernel
theorem dX6_turn_64 : decode cX6_turn 64 = .ok (.putfield 94, 3) := by decide +kernel
theorem dX6_turn_67 : decode cX6_turn 67 = .ok (.aload_n 0, 1) := by decide +kernel
theorem dX6_turn_68 : decode cX6_turn 68 = .ok (.iload_n 2, 1) := by decide +kernel
theorem dX6_turn_69 : decode cX6_turn 69 = .ok (.putfield 91, 3) := by decide +kernel
theorem dX6_turn_72 : decode cX6_turn 72 = .ok (.aload_n 0, 1) := by decide +kernel
theorem dX6_turn_73 : decode cX6_turn 73 = .ok (.getfield 23, 3) := by decide +kernel
theorem dX6_turn_76 : decode cX6_turn 76 = .ok (.iconst 4, 1) := by decide +kernel
theorem dX6_turn_77 : decode cX6_turn 77 = .ok (.dup2, 1) := by decide +kernel
theorem dX6_turn_78 : decode cX6_turn 78 = .ok (.iaload, 1) := by decide +kernel
theorem dX6_turn_79 : decode cX6_turn 79 = .ok (.iconst 1, 1) := by decide +kernel
theorem dX6_turn_80 : decode cX6_turn 80 = .ok (.iadd, 1) := by decide +kernel
theorem dX6_turn_81 : decode cX6_turn 81 = .ok (.iastore, 1) := by decide +kernel
theorem dX6_turn_82 : decode cX6_turn 82 = .ok (.return_, 1) := by decide +kernel
theorem dX6_context_0 : decode cX6_context 0 = .ok (.aload_n 0, 1) := by decide +kernel
theorem dX6_context_1 : decode cX6_context 1 = .ok (.getfield 85, 3) := by decide +kernel
theorem dX6_context_4 : decode cX6_context 4 = .ok (.ifCond .le 17, 3) := by decide +kernel
theorem dX6_context_7 : decode cX6_context 7 = .ok (.aload_n 0, 1) := by decide +kernel
theorem dX6_context_8 : decode cX6_context 8 = .ok (.getfield 17, 3) := by decide +kernel
theorem dX6_context_11 : decode cX6_context 11 = .ok (.aload_n 0, 1) := by decide +kernel
theorem dX6_context_12 : decode cX6_context 12 = .ok (.getfield 85, 3) := by decide +kernel
theorem dX6_context_15 : decode cX6_context 15 = .ok (.iconst 1, 1) := by decide +kernel
theorem dX6_context_16 : decode cX6_context 16 = .ok (.isub, 1) := by decide +kernel
theorem dX6_context_17 : decode cX6_context 17 = .ok (.iaload, 1) := by decide +kernel
theorem dX6_context_18 : decode cX6_context 18 = .ok (.goto 4, 3) := by decide +kernel
theorem dX6_context_21 : decode cX6_context 21 = .ok (.iconst 0, 1) := by decide +kernel
theorem dX6_context_22 : decode cX6_context 22 = .ok (.istore_n 1, 1) := by decide +kernel
theorem dX6_context_23 : decode cX6_context 23 = .ok (.aload_n 0, 1) := by decide +kernel
theorem dX6_context_24 : decode cX6_context 24 = .ok (.getfield 85, 3) := by decide +kernel
theorem dX6_context_27 : decode cX6_context 27 = .ok (.iconst 1, 1) := by decide +kernel
theorem dX6_context_28 : decode cX6_context 28 = .ok (.if_icmp .le 17, 3) := by decide +kernel
theorem dX6_context_31 : decode cX6_context 31 = .ok (.aload_n 0, 1) := by decide +kernel
theorem dX6_context_32 : decode cX6_context 32 = .ok (.getfield 17, 3) := by decide +kernel
theorem dX6_context_35 : decode cX6_context 35 = .ok (.aload_n 0, 1) := by decide +kernel
theorem dX6_context_36 : decode cX6_context 36 = .ok (.getfield 85, 3) := by decide +kernel
theorem dX6_context_39 : decode cX6_context 39 = .ok (.iconst 2, 1) := by decide +kernel
theorem dX6_context_40 : decode cX6_context 40 = .ok (.isub, 1) := by decide +kernel
theorem dX6_context_41 : decode cX6_context 41 = .ok (.iaload, 1) := by decide +kernel
theorem dX6_context_42 : decode cX6_context 42 = .ok (.goto 4, 3) := by decide +kernel
theorem dX6_context_45 : decode cX6_context 45 = .ok (.iconst 0, 1) := by decide +kernel
theorem dX6_context_46 : decode cX6_context 46 = .ok (.istore_n 2, 1) := by decide +kernel
theorem dX6_context_47 : decode cX6_context 47 = .ok (.aload_n 0, 1) := by decide +kernel
theorem dX6_context_48 : decode cX6_context 48 = .ok (.getfield 35, 3) := by decide +kernel
theorem dX6_context_51 : decode cX6_context 51 = .ok (.aload_n 0, 1) := by decide +kernel
theorem dX6_context_52 : decode cX6_context 52 = .ok (.getfield 91, 3) := by decide +kernel
theorem dX6_context_55 : decode cX6_context 55 = .ok (.iaload, 1) := by decide +kernel
theorem dX6_context_56 : decode cX6_context 56 = .ok (.tableswitch 67 0 2 #[28, 32, 37], 28) := by decide +kernel
theorem dX6_context_84 : decode cX6_context 84 = .ok (.iload_n 1, 1) := by decide +kernel
theorem dX6_context_85 : decode cX6_context 85 = .ok (.iconst 4, 1) := by decide +kernel
theorem dX6_context_86 : decode cX6_context 86 = .ok (.irem, 1) := by decide +kernel
theorem dX6_context_87 : decode cX6_context 87 = .ok (.ireturn, 1) := by decide +kernel
theorem dX6_context_88 : decode cX6_context 88 = .ok (.iload_n 1, 1) := by decide +kernel
theorem dX6_context_89 : decode cX6_context 89 = .ok (.bipush 8, 2) := by decide +kernel
theorem dX6_context_91 : decode cX6_context 91 = .ok (.idiv, 1) := by decide +kernel
theorem dX6_context_92 : decode cX6_context 92 = .ok (.ireturn, 1) := by decide +kernel
theorem dX6_context_93 : decode cX6_context 93 = .ok (.iload_n 1, 1) := by decide +kernel
theorem dX6_context_94 : decode cX6_context 94 = .ok (.ifCond .ne 7, 3) := by decide +kernel
theorem dX6_context_97 : decode cX6_context 97 = .ok (.iconst 0, 1) := by decide +kernel
theorem dX6_context_98 : decode cX6_context 98 = .ok (.goto 24, 3) := by decide +kernel
theorem dX6_context_101 : decode cX6_context 101 = .ok (.iload_n 1, 1) := by decide +kernel
theorem dX6_context_102 : decode cX6_context 102 = .ok (.bipush 8, 2) := by decide +kernel
theorem dX6_context_104 : decode cX6_context 104 = .ok (.if_icmp .ge 7, 3) := by decide +kernel
theorem dX6_context_107 : decode cX6_context 107 = .ok (.iconst 1, 1) := by decide +kernel
theorem dX6_context_108 : decode cX6_context 108 = .ok (.goto 14, 3) := by decide +kernel
theorem dX6_context_111 : decode cX6_context 111 = .ok (.iload_n 1, 1) := by decide +kernel
theorem dX6_context_112 : decode cX6_context 112 = .ok (.bipush 20, 2) := by decide +kernel
theorem dX6_context_114 : decode cX6_context 114 = .ok (.if_icmp .ge 7, 3) := by decide +kernel
theorem dX6_context_117 : decode cX6_context 117 = .ok (.iconst 2, 1) := by decide +kernel
theorem dX6_context_118 : decode cX6_context 118 = .ok (.goto 4, 3) := by decide +kernel
theorem dX6_context_121 : decode cX6_context 121 = .ok (.iconst 3, 1) := by decide +kernel
theorem dX6_context_122 : decode cX6_context 122 = .ok (.ireturn, 1) := by decide +kernel
theorem dX6_context_123 : decode cX6_context 123 = .ok (.iconst 2, 1) := by decide +kernel
theorem dX6_context_124 : decode cX6_context 124 = .ok (.iload_n 1, 1) := by decide +kernel
theorem dX6_context_125 : decode cX6_context 125 = .ok (.bipush 16, 2) := by decide +kernel
theorem dX6_context_127 : decode cX6_context 127 = .ok (.idiv, 1) := by decide +kernel
theorem dX6_context_128 : decode cX6_context 128 = .ok (.imul, 1) := by decide +kernel
theorem dX6_context_129 : decode cX6_context 129 = .ok (.iload_n 2, 1) := by decide +kernel
theorem dX6_context_130 : decode cX6_context 130 = .ok (.bipush 16, 2) := by decide +kernel
theorem dX6_context_132 : decode cX6_context 132 = .ok (.idiv, 1) := by decide +kernel
theorem dX6_context_133 : decode cX6_context 133 = .ok (.iadd, 1) := by decide +kernel
theorem dX6_context_134 : decode cX6_context 134 = .ok (.ireturn, 1) := by decide +kernel
theorem dX6_readLetter_0 : decode cX6_readLetter 0 = .ok (.aload_n 0, 1) := by decide +kernel
theorem dX6_readLetter_1 : decode cX6_readLetter 1 = .ok (.getfield 88, 3) := by decide +kernel
theorem dX6_readLetter_4 : decode cX6_readLetter 4 = .ok (.iconst 1, 1) := by decide +kernel
theorem dX6_readLetter_5 : decode cX6_readLetter 5 = .ok (.if_icmp .le 14, 3) := by decide +kernel
theorem dX6_readLetter_8 : decode cX6_readLetter 8 = .ok (.aload_n 0, 1) := by decide +kernel
theorem dX6_readLetter_9 : decode cX6_readLetter 9 = .ok (.getfield 100, 3) := by decide +kernel
theorem dX6_readLetter_12 : decode cX6_readLetter 12 = .ok (.ifCond .ne 7, 3) := by decide +kernel
theorem dX6_readLetter_15 : decode cX6_readLetter 15 = .ok (.aload_n 0, 1) := by decide +kernel
theorem dX6_readLetter_16 : decode cX6_readLetter 16 = .ok (.invokevirtual 109, 3) := by decide +kernel
theorem dX6_readLetter_19 : decode cX6_readLetter 19 = .ok (.aload_n 0, 1) := by decide +kernel
theorem dX6_readLetter_20 : decode cX6_readLetter 20 = .ok (.getfield 59, 3) := by decide +kernel
theorem dX6_readLetter_23 : decode cX6_readLetter 23 = .ok (.ifCond .eq 4, 3) := by decide +kernel
theorem dX6_readLetter_26 : decode cX6_readLetter 26 = .ok (.return_, 1) := by decide +kernel
theorem dX6_readLetter_27 : decode cX6_readLetter 27 = .ok (.aload_n 0, 1) := by decide +kernel
theorem dX6_readLetter_28 : decode cX6_readLetter 28 = .ok (.dup, 1) := by decide +kernel
theorem dX6_readLetter_29 : decode cX6_readLetter 29 = .ok (.getfield 100, 3) := by decide +kernel
theorem dX6_readLetter_32 : decode cX6_readLetter 32 = .ok (.iconst 1, 1) := by decide +kernel
theorem dX6_readLetter_33 : decode cX6_readLetter 33 = .ok (.isub, 1) := by decide +kernel
theorem dX6_readLetter_34 : decode cX6_readLetter 34 = .ok (.putfield 100, 3) := by decide +kernel
theorem dX6_readLetter_37 : decode cX6_readLetter 37 = .ok (.aload_n 0, 1) := by decide +kernel
theorem dX6_readLetter_38 : decode cX6_readLetter 38 = .ok (.aload_n 0, 1) := by decide +kernel
theorem dX6_readLetter_39 : decode cX6_readLetter 39 = .ok (.aload_n 0, 1) := by decide +kernel
theorem dX6_readLetter_40 : decode cX6_readLetter 40 = .ok (.getfield 38, 3) := by decide +kernel
theorem dX6_readLetter_43 : decode cX6_readLetter 43 = .ok (.iconst 4, 1) := by decide +kernel
theorem dX6_readLetter_44 : decode cX6_readLetter 44 = .ok (.aload_n 0, 1) := by decide +kernel
theorem dX6_readLetter_45 : decode cX6_readLetter 45 = .ok (.getfield 91, 3) := by decide +kernel
theorem dX6_readLetter_48 : decode cX6_readLetter 48 = .ok (.imul, 1) := by decide +kernel
theorem dX6_readLetter_49 : decode cX6_readLetter 49 = .ok (.aload_n 0, 1) := by decide +kernel
theorem dX6_readLetter_50 : decode cX6_readLetter 50 = .ok (.invokevirtual 112, 3) := by decide +kernel
theorem dX6_readLetter_53 : decode cX6_readLetter 53 = .ok (.iadd, 1) := by decide +kernel
theorem dX6_readLetter_54 : decode cX6_readLetter 54 = .ok (.iaload, 1) := by decide +kernel
theorem dX6_readLetter_55 : decode cX6_readLetter 55 = .ok (.invokevirtual 106, 3) := by decide +kernel
theorem dX6_readLetter_58 : decode cX6_readLetter 58 = .ok (.invokevirtual 81, 3) := by decide +kernel
theorem dX6_readLetter_61 : decode cX6_readLetter 61 = .ok (.aload_n 0, 1) := by decide +kernel
theorem dX6_readLetter_62 : decode cX6_readLetter 62 = .ok (.getfield 23, 3) := by decide +kernel
theorem dX6_readLetter_65 : decode cX6_readLetter 65 = .ok (.iconst 1, 1) := by decide +kernel
theorem dX6_readLetter_66 : decode cX6_readLetter 66 = .ok (.dup2, 1) := by decide +kernel
theorem dX6_readLetter_67 : decode cX6_readLetter 67 = .ok (.iaload, 1) := by decide +kernel
theorem dX6_readLetter_68 : decode cX6_readLetter 68 = .ok (.aload_n 0, 1) := by decide +kernel
theorem dX6_readLetter_69 : decode cX6_readLetter 69 = .ok (.getfield 59, 3) := by decide +kernel
theorem dX6_readLetter_72 : decode cX6_readLetter 72 = .ok (.ifCond .eq 7, 3) := by decide +kernel
theorem dX6_readLetter_75 : decode cX6_readLetter 75 = .ok (.iconst 0, 1) := by decide +kernel
theorem dX6_readLetter_76 : decode cX6_readLetter 76 = .ok (.goto 4, 3) := by decide +kernel
theorem dX6_readLetter_79 : decode cX6_readLetter 79 = .ok (.iconst 1, 1) := by decide +kernel
theorem dX6_readLetter_80 : decode cX6_readLetter 80 = .ok (.iadd, 1) := by decide +kernel
theorem dX6_readLetter_81 : decode cX6_readLetter 81 = .ok (.iastore, 1) := by decide +kernel
theorem dX6_readLetter_82 : decode cX6_readLetter 82 = .ok (.return_, 1) := by decide +kernel
theorem dX6_baseOf_0 : decode cX6_baseOf 0 = .ok (.iload_n 2, 1) := by decide +kernel
theorem dX6_baseOf_1 : decode cX6_baseOf 1 = .ok (.ifCond .ne 11, 3) := by decide +kernel
theorem dX6_baseOf_4 : decode cX6_baseOf 4 = .ok (.iconst 1, 1) := by decide +kernel
theorem dX6_baseOf_5 : decode cX6_baseOf 5 = .ok (.iload_n 1, 1) := by decide +kernel
theorem dX6_baseOf_6 : decode cX6_baseOf 6 = .ok (.ishl, 1) := by decide +kernel
theorem dX6_baseOf_7 : decode cX6_baseOf 7 = .ok (.iconst 1, 1) := by decide +kernel
theorem dX6_baseOf_8 : decode cX6_baseOf 8 = .ok (.isub, 1) := by decide +kernel
theorem dX6_baseOf_9 : decode cX6_baseOf 9 = .ok (.goto 8, 3) := by decide +kernel
theorem dX6_baseOf_12 : decode cX6_baseOf 12 = .ok (.iconst 1, 1) := by decide +kernel
theorem dX6_baseOf_13 : decode cX6_baseOf 13 = .ok (.iload_n 1, 1) := by decide +kernel
theorem dX6_baseOf_14 : decode cX6_baseOf 14 = .ok (.ishl, 1) := by decide +kernel
theorem dX6_baseOf_15 : decode cX6_baseOf 15 = .ok (.iconst 1, 1) := by decide +kernel
theorem dX6_baseOf_16 : decode cX6_baseOf 16 = .ok (.iadd, 1) := by decide +kernel
theorem dX6_baseOf_17 : decode cX6_baseOf 17 = .ok (.ireturn, 1) := by decide +kernel
theorem dX6_wordLetter_0 : decode cX6_wordLetter 0 = .ok (.bipush 7, 2) := by decide +kernel
theorem dX6_wordLetter_2 : decode cX6_wordLetter 2 = .ok (.iload_n 1, 1) := by decide +kernel
theorem dX6_wordLetter_3 : decode cX6_wordLetter 3 = .ok (.imul, 1) := by decide +kernel
theorem dX6_wordLetter_4 : decode cX6_wordLetter 4 = .ok (.iconst 5, 1) := by decide +kernel
theorem dX6_wordLetter_5 : decode cX6_wordLetter 5 = .ok (.iload_n 2, 1) := by decide +kernel
theorem dX6_wordLetter_6 : decode cX6_wordLetter 6 = .ok (.imul, 1) := by decide +kernel
theorem dX6_wordLetter_7 : decode cX6_wordLetter 7 = .ok (.iadd, 1) := by decide +kernel
theorem dX6_wordLetter_8 : decode cX6_wordLetter 8 = .ok (.iconst 3, 1) := by decide +kernel
theorem dX6_wordLetter_9 : decode cX6_wordLetter 9 = .ok (.iload_n 3, 1) := by decide +kernel
theorem dX6_wordLetter_10 : decode cX6_wordLetter 10 = .ok (.imul, 1) := by decide +kernel
theorem dX6_wordLetter_11 : decode cX6_wordLetter 11 = .ok (.iload_n 3, 1) := by decide +kernel
theorem dX6_wordLetter_12 : decode cX6_wordLetter 12 = .ok (.imul, 1) := by decide +kernel
theorem dX6_wordLetter_13 : decode cX6_wordLetter 13 = .ok (.iadd, 1) := by decide +kernel
theorem dX6_wordLetter_14 : decode cX6_wordLetter 14 = .ok (.iload_n 3, 1) := by decide +kernel
theorem dX6_wordLetter_15 : decode cX6_wordLetter 15 = .ok (.iload_n 1, 1) := by decide +kernel
theorem dX6_wordLetter_16 : decode cX6_wordLetter 16 = .ok (.imul, 1) := by decide +kernel
theorem dX6_wordLetter_17 : decode cX6_wordLetter 17 = .ok (.iadd, 1) := by decide +kernel
theorem dX6_wordLetter_18 : decode cX6_wordLetter 18 = .ok (.bipush 32, 2) := by decide +kernel
theorem dX6_wordLetter_20 : decode cX6_wordLetter 20 = .ok (.irem, 1) := by decide +kernel
theorem dX6_wordLetter_21 : decode cX6_wordLetter 21 = .ok (.ireturn, 1) := by decide +kernel
theorem dX6_dictionary_0 : decode cX6_dictionary 0 = .ok (.iload_n 1, 1) := by decide +kernel
theorem dX6_dictionary_1 : decode cX6_dictionary 1 = .ok (.bipush 8, 2) := by decide +kernel
theorem dX6_dictionary_3 : decode cX6_dictionary 3 = .ok (.idiv, 1) := by decide +kernel
theorem dX6_dictionary_4 : decode cX6_dictionary 4 = .ok (.istore 4, 2) := by decide +kernel
theorem dX6_dictionary_6 : decode cX6_dictionary 6 = .ok (.iload_n 1, 1) := by decide +kernel
theorem dX6_dictionary_7 : decode cX6_dictionary 7 = .ok (.bipush 8, 2) := by decide +kernel
theorem dX6_dictionary_9 : decode cX6_dictionary 9 = .ok (.irem, 1) := by decide +kernel
theorem dX6_dictionary_10 : decode cX6_dictionary 10 = .ok (.istore 5, 2) := by decide +kernel
theorem dX6_dictionary_12 : decode cX6_dictionary 12 = .ok (.iload 4, 2) := by decide +kernel
theorem dX6_dictionary_14 : decode cX6_dictionary 14 = .ok (.iconst 2, 1) := by decide +kernel
theorem dX6_dictionary_15 : decode cX6_dictionary 15 = .ok (.if_icmp .ne 7, 3) := by decide +kernel
theorem dX6_dictionary_18 : decode cX6_dictionary 18 = .ok (.iconst 1, 1) := by decide +kernel
theorem dX6_dictionary_19 : decode cX6_dictionary 19 = .ok (.goto 4, 3) := by decide +kernel
theorem dX6_dictionary_22 : decode cX6_dictionary 22 = .ok (.iconst 0, 1) := by decide +kernel
theorem dX6_dictionary_23 : decode cX6_dictionary 23 = .ok (.istore 6, 2) := by decide +kernel
theorem dX6_dictionary_25 : decode cX6_dictionary 25 = .ok (.iload 4, 2) := by decide +kernel
theorem dX6_dictionary_27 : decode cX6_dictionary 27 = .ok (.iconst 3, 1) := by decide +kernel
theorem dX6_dictionary_28 : decode cX6_dictionary 28 = .ok (.if_icmp .ne 9, 3) := by decide +kernel
theorem dX6_dictionary_31 : decode cX6_dictionary 31 = .ok (.iload_n 2, 1) := by decide +kernel
theorem dX6_dictionary_32 : decode cX6_dictionary 32 = .ok (.iconst 1, 1) := by decide +kernel
theorem dX6_dictionary_33 : decode cX6_dictionary 33 = .ok (.isub, 1) := by decide +kernel
theorem dX6_dictionary_34 : decode cX6_dictionary 34 = .ok (.goto 4, 3) := by decide +kernel
theorem dX6_dictionary_37 : decode cX6_dictionary 37 = .ok (.iload_n 2, 1) := by decide +kernel
theorem dX6_dictionary_38 : decode cX6_dictionary 38 = .ok (.istore 7, 2) := by decide +kernel
theorem dX6_dictionary_40 : decode cX6_dictionary 40 = .ok (.iload 7, 2) := by decide +kernel
theorem dX6_dictionary_42 : decode cX6_dictionary 42 = .ok (.iload 6, 2) := by decide +kernel
theorem dX6_dictionary_44 : decode cX6_dictionary 44 = .ok (.isub, 1) := by decide +kernel
theorem dX6_dictionary_45 : decode cX6_dictionary 45 = .ok (.iload 4, 2) := by decide +kernel
theorem dX6_dictionary_47 : decode cX6_dictionary 47 = .ok (.iconst 4, 1) := by decide +kernel
theorem dX6_dictionary_48 : decode cX6_dictionary 48 = .ok (.if_icmp .ne 7, 3) := by decide +kernel
theorem dX6_dictionary_51 : decode cX6_dictionary 51 = .ok (.iconst 1, 1) := by decide +kernel
theorem dX6_dictionary_52 : decode cX6_dictionary 52 = .ok (.goto 4, 3) := by decide +kernel
theorem dX6_dictionary_55 : decode cX6_dictionary 55 = .ok (.iconst 0, 1) := by decide +kernel
theorem dX6_dictionary_56 : decode cX6_dictionary 56 = .ok (.iadd, 1) := by decide +kernel
theorem dX6_dictionary_57 : decode cX6_dictionary 57 = .ok (.istore 8, 2) := by decide +kernel
theorem dX6_dictionary_59 : decode cX6_dictionary 59 = .ok (.aload_n 0, 1) := by decide +kernel
theorem dX6_dictionary_60 : decode cX6_dictionary 60 = .ok (.aload_n 0, 1) := by decide +kernel
theorem dX6_dictionary_61 : decode cX6_dictionary 61 = .ok (.getfield 59, 3) := by decide +kernel
theorem dX6_dictionary_64 : decode cX6_dictionary 64 = .ok (.ifCond .ne 26, 3) := by decide +kernel
theorem dX6_dictionary_67 : decode cX6_dictionary 67 = .ok (.iload_n 2, 1) := by decide +kernel
theorem dX6_dictionary_68 : decode cX6_dictionary 68 = .ok (.iconst 3, 1) := by decide +kernel
theorem dX6_dictionary_69 : decode cX6_dictionary 69 = .ok (.if_icmp .lt 21, 3) := by decide +kernel
theorem dX6_dictionary_72 : decode cX6_dictionary 72 = .ok (.iload_n 2, 1) := by decide +kernel
theorem dX6_dictionary_73 : decode cX6_dictionary 73 = .ok (.bipush 6, 2) := by decide +kernel
theorem dX6_dictionary_75 : decode cX6_dictionary 75 = .ok (.if_icmp .gt 15, 3) := by decide +kernel
theorem dX6_dictionary_78 : decode cX6_dictionary 78 = .ok (.iload 4, 2) := by decide +kernel
theorem dX6_dictionary_80 : decode cX6_dictionary 80 = .ok (.iconst 4, 1) := by decide +kernel
theorem dX6_dictionary_81 : decode cX6_dictionary 81 = .ok (.if_icmp .gt 9, 3) := by decide +kernel
theorem dX6_dictionary_84 : decode cX6_dictionary 84 = .ok (.iload 8, 2) := by decide +kernel
theorem dX6_dictionary_86 : decode cX6_dictionary 86 = .ok (.iload_n 3, 1) := by decide +kernel
theorem dX6_dictionary_87 : decode cX6_dictionary 87 = .ok (.if_icmp .le 7, 3) := by decide +kernel
theorem dX6_dictionary_90 : decode cX6_dictionary 90 = .ok (.iconst 1, 1) := by decide +kernel
theorem dX6_dictionary_91 : decode cX6_dictionary 91 = .ok (.goto 4, 3) := by decide +kernel
theorem dX6_dictionary_94 : decode cX6_dictionary 94 = .ok (.iconst 0, 1) := by decide +kernel
theorem dX6_dictionary_95 : decode cX6_dictionary 95 = .ok (.putfield 59, 3) := by decide +kernel
theorem dX6_dictionary_98 : decode cX6_dictionary 98 = .ok (.iload 6, 2) := by decide +kernel
theorem dX6_dictionary_100 : decode cX6_dictionary 100 = .ok (.istore 9, 2) := by decide +kernel
theorem dX6_dictionary_102 : decode cX6_dictionary 102 = .ok (.iload 9, 2) := by decide +kernel
theorem dX6_dictionary_104 : decode cX6_dictionary 104 = .ok (.iload 7, 2) := by decide +kernel
theorem dX6_dictionary_106 : decode cX6_dictionary 106 = .ok (.if_icmp .ge 46, 3) := by decide +kernel
theorem dX6_dictionary_109 : decode cX6_dictionary 109 = .ok (.aload_n 0, 1) := by decide +kernel
theorem dX6_dictionary_110 : decode cX6_dictionary 110 = .ok (.getfield 59, 3) := by decide +kernel
theorem dX6_dictionary_113 : decode cX6_dictionary 113 = .ok (.ifCond .ne 39, 3) := by decide +kernel
theorem dX6_dictionary_116 : decode cX6_dictionary 116 = .ok (.aload_n 0, 1) := by decide +kernel
theorem dX6_dictionary_117 : decode cX6_dictionary 117 = .ok (.aload_n 0, 1) := by decide +kernel
theorem dX6_dictionary_118 : decode cX6_dictionary 118 = .ok (.iload 5, 2) := by decide +kernel
theorem dX6_dictionary_120 : decode cX6_dictionary 120 = .ok (.iload_n 2, 1) := by decide +kernel
theorem dX6_dictionary_121 : decode cX6_dictionary 121 = .ok (.iload 9, 2) := by decide +kernel
theorem dX6_dictionary_123 : decode cX6_dictionary 123 = .ok (.invokevirtual 116, 3) := by decide +kernel
theorem dX6_dictionary_126 : decode cX6_dictionary 126 = .ok (.iload 4, 2) := by decide +kernel
theorem dX6_dictionary_128 : decode cX6_dictionary 128 = .ok (.iconst 1, 1) := by decide +kernel
theorem dX6_dictionary_129 : decode cX6_dictionary 129 = .ok (.if_icmp .ne 12, 3) := by decide +kernel
theorem dX6_dictionary_132 : decode cX6_dictionary 132 = .ok (.iload 9, 2) := by decide +kernel
theorem dX6_dictionary_134 : decode cX6_dictionary 134 = .ok (.ifCond .ne 7, 3) := by decide +kernel
theorem dX6_dictionary_137 : decode cX6_dictionary 137 = .ok (.iconst 1, 1) := by decide +kernel
theorem dX6_dictionary_138 : decode cX6_dictionary 138 = .ok (.goto 4, 3) := by decide +kernel
theorem dX6_dictionary_141 : decode cX6_dictionary 141 = .ok (.iconst 0, 1) := by decide +kernel
theorem dX6_dictionary_142 : decode cX6_dictionary 142 = .ok (.ixor, 1) := by decide +kernel
theorem dX6_dictionary_143 : decode cX6_dictionary 143 = .ok (.invokevirtual 81, 3) := by decide +kernel
theorem dX6_dictionary_146 : decode cX6_dictionary 146 = .ok (.iinc 9 1, 3) := by decide +kernel
theorem dX6_dictionary_149 : decode cX6_dictionary 149 = .ok (.goto (-47), 3) := by decide +kernel
theorem dX6_dictionary_152 : decode cX6_dictionary 152 = .ok (.iload 4, 2) := by decide +kernel
theorem dX6_dictionary_154 : decode cX6_dictionary 154 = .ok (.iconst 4, 1) := by decide +kernel
theorem dX6_dictionary_155 : decode cX6_dictionary 155 = .ok (.if_icmp .ne 8, 3) := by decide +kernel
theorem dX6_dictionary_158 : decode cX6_dictionary 158 = .ok (.aload_n 0, 1) := by decide +kernel
theorem dX6_dictionary_159 : decode cX6_dictionary 159 = .ok (.iconst 0, 1) := by decide +kernel
theorem dX6_dictionary_160 : decode cX6_dictionary 160 = .ok (.invokevirtual 81, 3) := by decide +kernel
theorem dX6_dictionary_163 : decode cX6_dictionary 163 = .ok (.aload_n 0, 1) := by decide +kernel
theorem dX6_dictionary_164 : decode cX6_dictionary 164 = .ok (.getfield 23, 3) := by decide +kernel
theorem dX6_dictionary_167 : decode cX6_dictionary 167 = .ok (.iconst 3, 1) := by decide +kernel
theorem dX6_dictionary_168 : decode cX6_dictionary 168 = .ok (.dup2, 1) := by decide +kernel
theorem dX6_dictionary_169 : decode cX6_dictionary 169 = .ok (.iaload, 1) := by decide +kernel
theorem dX6_dictionary_170 : decode cX6_dictionary 170 = .ok (.aload_n 0, 1) := by decide +kernel
theorem dX6_dictionary_171 : decode cX6_dictionary 171 = .ok (.getfield 59, 3) := by decide +kernel
theorem dX6_dictionary_174 : decode cX6_dictionary 174 = .ok (.ifCond .eq 7, 3) := by decide +kernel
theorem dX6_dictionary_177 : decode cX6_dictionary 177 = .ok (.iconst 0, 1) := by decide +kernel
theorem dX6_dictionary_178 : decode cX6_dictionary 178 = .ok (.goto 5, 3) := by decide +kernel
theorem dX6_dictionary_181 : decode cX6_dictionary 181 = .ok (.iload 8, 2) := by decide +kernel
theorem dX6_dictionary_183 : decode cX6_dictionary 183 = .ok (.iadd, 1) := by decide +kernel
theorem dX6_dictionary_184 : decode cX6_dictionary 184 = .ok (.iastore, 1) := by decide +kernel
theorem dX6_dictionary_185 : decode cX6_dictionary 185 = .ok (.iload 8, 2) := by decide +kernel
theorem dX6_dictionary_187 : decode cX6_dictionary 187 = .ok (.ireturn, 1) := by decide +kernel
theorem dX6_piece_0 : decode cX6_piece 0 = .ok (.aload_n 0, 1) := by decide +kernel
theorem dX6_piece_1 : decode cX6_piece 1 = .ok (.iconst 5, 1) := by decide +kernel
theorem dX6_piece_2 : decode cX6_piece 2 = .ok (.invokevirtual 106, 3) := by decide +kernel
theorem dX6_piece_5 : decode cX6_piece 5 = .ok (.istore_n 3, 1) := by decide +kernel
theorem dX6_piece_6 : decode cX6_piece 6 = .ok (.iload_n 3, 1) := by decide +kernel
theorem dX6_piece_7 : decode cX6_piece 7 = .ok (.iconst 4, 1) := by decide +kernel
theorem dX6_piece_8 : decode cX6_piece 8 = .ok (.if_icmp .ge 14, 3) := by decide +kernel
theorem dX6_piece_11 : decode cX6_piece 11 = .ok (.aload_n 0, 1) := by decide +kernel
theorem dX6_piece_12 : decode cX6_piece 12 = .ok (.getfield 23, 3) := by decide +kernel
theorem dX6_piece_15 : decode cX6_piece 15 = .ok (.iconst 5, 1) := by decide +kernel
theorem dX6_piece_16 : decode cX6_piece 16 = .ok (.iload_n 3, 1) := by decide +kernel
theorem dX6_piece_17 : decode cX6_piece 17 = .ok (.iadd, 1) := by decide +kernel
theorem dX6_piece_18 : decode cX6_piece 18 = .ok (.iaload, 1) := by decide +kernel
theorem dX6_piece_19 : decode cX6_piece 19 = .ok (.goto 4, 3) := by decide +kernel
theorem dX6_piece_22 : decode cX6_piece 22 = .ok (.iconst 0, 1) := by decide +kernel
theorem dX6_piece_23 : decode cX6_piece 23 = .ok (.istore 4, 2) := by decide +kernel
theorem dX6_piece_25 : decode cX6_piece 25 = .ok (.iload_n 3, 1) := by decide +kernel
theorem dX6_piece_26 : decode cX6_piece 26 = .ok (.iconst 3, 1) := by decide +kernel
theorem dX6_piece_27 : decode cX6_piece 27 = .ok (.if_icmp .le 38, 3) := by decide +kernel
theorem dX6_piece_30 : decode cX6_piece 30 = .ok (.iload_n 3, 1) := by decide +kernel
theorem dX6_piece_31 : decode cX6_piece 31 = .ok (.iconst 4, 1) := by decide +kernel
theorem dX6_piece_32 : decode cX6_piece 32 = .ok (.isub, 1) := by decide +kernel
theorem dX6_piece_33 : decode cX6_piece 33 = .ok (.istore 5, 2) := by decide +kernel
theorem dX6_piece_35 : decode cX6_piece 35 = .ok (.iconst 1, 1) := by decide +kernel
theorem dX6_piece_36 : decode cX6_piece 36 = .ok (.iload 5, 2) := by decide +kernel
theorem dX6_piece_38 : decode cX6_piece 38 = .ok (.iconst 2, 1) := by decide +kernel
theorem dX6_piece_39 : decode cX6_piece 39 = .ok (.idiv, 1) := by decide +kernel
theorem dX6_piece_40 : decode cX6_piece 40 = .ok (.iadd, 1) := by decide +kernel
theorem dX6_piece_41 : decode cX6_piece 41 = .ok (.istore 6, 2) := by decide +kernel
theorem dX6_piece_43 : decode cX6_piece 43 = .ok (.iconst 2, 1) := by decide +kernel
theorem dX6_piece_44 : decode cX6_piece 44 = .ok (.iload 5, 2) := by decide +kernel
theorem dX6_piece_46 : decode cX6_piece 46 = .ok (.iconst 2, 1) := by decide +kernel
theorem dX6_piece_47 : decode cX6_piece 47 = .ok (.irem, 1) := by decide +kernel
theorem dX6_piece_48 : decode cX6_piece 48 = .ok (.iadd, 1) := by decide +kernel
theorem dX6_piece_49 : decode cX6_piece 49 = .ok (.iconst 1, 1) := by decide +kernel
theorem dX6_piece_50 : decode cX6_piece 50 = .ok (.iload 6, 2) := by decide +kernel
theorem dX6_piece_52 : decode cX6_piece 52 = .ok (.ishl, 1) := by decide +kernel
theorem dX6_piece_53 : decode cX6_piece 53 = .ok (.imul, 1) := by decide +kernel
theorem dX6_piece_54 : decode cX6_piece 54 = .ok (.iconst 3, 1) := by decide +kernel
theorem dX6_piece_55 : decode cX6_piece 55 = .ok (.isub, 1) := by decide +kernel
theorem dX6_piece_56 : decode cX6_piece 56 = .ok (.aload_n 0, 1) := by decide +kernel
theorem dX6_piece_57 : decode cX6_piece 57 = .ok (.iload 6, 2) := by decide +kernel
theorem dX6_piece_59 : decode cX6_piece 59 = .ok (.invokevirtual 66, 3) := by decide +kernel
theorem dX6_piece_62 : decode cX6_piece 62 = .ok (.iadd, 1) := by decide +kernel
theorem dX6_piece_63 : decode cX6_piece 63 = .ok (.istore 4, 2) := by decide +kernel
theorem dX6_piece_65 : decode cX6_piece 65 = .ok (.aload_n 0, 1) := by decide +kernel
theorem dX6_piece_66 : decode cX6_piece 66 = .ok (.getfield 59, 3) := by decide +kernel
theorem dX6_piece_69 : decode cX6_piece 69 = .ok (.ifCond .eq 5, 3) := by decide +kernel
theorem dX6_piece_72 : decode cX6_piece 72 = .ok (.iconst 0, 1) := by decide +kernel
theorem dX6_piece_73 : decode cX6_piece 73 = .ok (.ireturn, 1) := by decide +kernel
theorem dX6_piece_74 : decode cX6_piece 74 = .ok (.iload 4, 2) := by decide +kernel
theorem dX6_piece_76 : decode cX6_piece 76 = .ok (.aload_n 0, 1) := by decide +kernel
theorem dX6_piece_77 : decode cX6_piece 77 = .ok (.getfield 85, 3) := by decide +kernel
theorem dX6_piece_80 : decode cX6_piece 80 = .ok (.if_icmp .le 19, 3) := by decide +kernel
theorem dX6_piece_83 : decode cX6_piece 83 = .ok (.aload_n 0, 1) := by decide +kernel
theorem dX6_piece_84 : decode cX6_piece 84 = .ok (.iload 4, 2) := by decide +kernel
theorem dX6_piece_86 : decode cX6_piece 86 = .ok (.aload_n 0, 1) := by decide +kernel
theorem dX6_piece_87 : decode cX6_piece 87 = .ok (.getfield 85, 3) := by decide +kernel
theorem dX6_piece_90 : decode cX6_piece 90 = .ok (.isub, 1) := by decide +kernel
theorem dX6_piece_91 : decode cX6_piece 91 = .ok (.iconst 1, 1) := by decide +kernel
theorem dX6_piece_92 : decode cX6_piece 92 = .ok (.isub, 1) := by decide +kernel
theorem dX6_piece_93 : decode cX6_piece 93 = .ok (.iload_n 1, 1) := by decide +kernel
theorem dX6_piece_94 : decode cX6_piece 94 = .ok (.iload_n 2, 1) := by decide +kernel
theorem dX6_piece_95 : decode cX6_piece 95 = .ok (.invokevirtual 120, 3) := by decide +kernel
theorem dX6_piece_98 : decode cX6_piece 98 = .ok (.ireturn, 1) := by decide +kernel
theorem dX6_piece_99 : decode cX6_piece 99 = .ok (.aload_n 0, 1) := by decide +kernel
theorem dX6_piece_100 : decode cX6_piece 100 = .ok (.iload_n 1, 1) := by decide +kernel
theorem dX6_piece_101 : decode cX6_piece 101 = .ok (.iload_n 2, 1) := by decide +kernel
theorem dX6_piece_102 : decode cX6_piece 102 = .ok (.if_icmp .le 7, 3) := by decide +kernel
theorem dX6_piece_105 : decode cX6_piece 105 = .ok (.iconst 1, 1) := by decide +kernel
theorem dX6_piece_106 : decode cX6_piece 106 = .ok (.goto 4, 3) := by decide +kernel
theorem dX6_piece_109 : decode cX6_piece 109 = .ok (.iconst 0, 1) := by decide +kernel
theorem dX6_piece_110 : decode cX6_piece 110 = .ok (.putfield 59, 3) := by decide +kernel
theorem dX6_piece_113 : decode cX6_piece 113 = .ok (.iconst 0, 1) := by decide +kernel
theorem dX6_piece_114 : decode cX6_piece 114 = .ok (.istore 5, 2) := by decide +kernel
theorem dX6_piece_116 : decode cX6_piece 116 = .ok (.iload 5, 2) := by decide +kernel
theorem dX6_piece_118 : decode cX6_piece 118 = .ok (.iload_n 1, 1) := by decide +kernel
theorem dX6_piece_119 : decode cX6_piece 119 = .ok (.if_icmp .ge 32, 3) := by decide +kernel
theorem dX6_piece_122 : decode cX6_piece 122 = .ok (.aload_n 0, 1) := by decide +kernel
theorem dX6_piece_123 : decode cX6_piece 123 = .ok (.getfield 59, 3) := by decide +kernel
theorem dX6_piece_126 : decode cX6_piece 126 = .ok (.ifCond .ne 25, 3) := by decide +kernel
theorem dX6_piece_129 : decode cX6_piece 129 = .ok (.aload_n 0, 1) := by decide +kernel
theorem dX6_piece_130 : decode cX6_piece 130 = .ok (.aload_n 0, 1) := by decide +kernel
theorem dX6_piece_131 : decode cX6_piece 131 = .ok (.getfield 17, 3) := by decide +kernel
theorem dX6_piece_134 : decode cX6_piece 134 = .ok (.aload_n 0, 1) := by decide +kernel
theorem dX6_piece_135 : decode cX6_piece 135 = .ok (.getfield 85, 3) := by decide +kernel
theorem dX6_piece_138 : decode cX6_piece 138 = .ok (.iload 4, 2) := by decide +kernel
theorem dX6_piece_140 : decode cX6_piece 140 = .ok (.isub, 1) := by decide +kernel
theorem dX6_piece_141 : decode cX6_piece 141 = .ok (.iaload, 1) := by decide +kernel
theorem dX6_piece_142 : decode cX6_piece 142 = .ok (.invokevirtual 81, 3) := by decide +kernel
theorem dX6_piece_145 : decode cX6_piece 145 = .ok (.iinc 5 1, 3) := by decide +kernel
theorem dX6_piece_148 : decode cX6_piece 148 = .ok (.goto (-32), 3) := by decide +kernel
theorem dX6_piece_151 : decode cX6_piece 151 = .ok (.bipush 8, 2) := by decide +kernel
theorem dX6_piece_153 : decode cX6_piece 153 = .ok (.istore 5, 2) := by decide +kernel
theorem dX6_piece_155 : decode cX6_piece 155 = .ok (.iload 5, 2) := by decide +kernel
theorem dX6_piece_157 : decode cX6_piece 157 = .ok (.iconst 5, 1) := by decide +kernel
theorem dX6_piece_158 : decode cX6_piece 158 = .ok (.if_icmp .le 29, 3) := by decide +kernel
theorem dX6_piece_161 : decode cX6_piece 161 = .ok (.iload_n 3, 1) := by decide +kernel
theorem dX6_piece_162 : decode cX6_piece 162 = .ok (.ifCond .le 25, 3) := by decide +kernel
theorem dX6_piece_165 : decode cX6_piece 165 = .ok (.aload_n 0, 1) := by decide +kernel
theorem dX6_piece_166 : decode cX6_piece 166 = .ok (.getfield 23, 3) := by decide +kernel
theorem dX6_piece_169 : decode cX6_piece 169 = .ok (.iload 5, 2) := by decide +kernel
theorem dX6_piece_171 : decode cX6_piece 171 = .ok (.aload_n 0, 1) := by decide +kernel
theorem dX6_piece_172 : decode cX6_piece 172 = .ok (.getfield 23, 3) := by decide +kernel
theorem dX6_piece_175 : decode cX6_piece 175 = .ok (.iload 5, 2) := by decide +kernel
theorem dX6_piece_177 : decode cX6_piece 177 = .ok (.iconst 1, 1) := by decide +kernel
theorem dX6_piece_178 : decode cX6_piece 178 = .ok (.isub, 1) := by decide +kernel
theorem dX6_piece_179 : decode cX6_piece 179 = .ok (.iaload, 1) := by decide +kernel
theorem dX6_piece_180 : decode cX6_piece 180 = .ok (.iastore, 1) := by decide +kernel
theorem dX6_piece_181 : decode cX6_piece 181 = .ok (.iinc 5 (-1), 3) := by decide +kernel
theorem dX6_piece_184 : decode cX6_piece 184 = .ok (.goto (-29), 3) := by decide +kernel
theorem dX6_piece_187 : decode cX6_piece 187 = .ok (.aload_n 0, 1) := by decide +kernel
theorem dX6_piece_188 : decode cX6_piece 188 = .ok (.getfield 23, 3) := by decide +kernel
theorem dX6_piece_191 : decode cX6_piece 191 = .ok (.iconst 5, 1) := by decide +kernel
theorem dX6_piece_192 : decode cX6_piece 192 = .ok (.iload 4, 2) := by decide +kernel
theorem dX6_piece_194 : decode cX6_piece 194 = .ok (.iastore, 1) := by decide +kernel
theorem dX6_piece_195 : decode cX6_piece 195 = .ok (.aload_n 0, 1) := by decide +kernel
theorem dX6_piece_196 : decode cX6_piece 196 = .ok (.getfield 23, 3) := by decide +kernel
theorem dX6_piece_199 : decode cX6_piece 199 = .ok (.iconst 2, 1) := by decide +kernel
theorem dX6_piece_200 : decode cX6_piece 200 = .ok (.dup2, 1) := by decide +kernel
theorem dX6_piece_201 : decode cX6_piece 201 = .ok (.iaload, 1) := by decide +kernel
theorem dX6_piece_202 : decode cX6_piece 202 = .ok (.iload_n 1, 1) := by decide +kernel
theorem dX6_piece_203 : decode cX6_piece 203 = .ok (.iadd, 1) := by decide +kernel
theorem dX6_piece_204 : decode cX6_piece 204 = .ok (.iastore, 1) := by decide +kernel
theorem dX6_piece_205 : decode cX6_piece 205 = .ok (.iload_n 1, 1) := by decide +kernel
theorem dX6_piece_206 : decode cX6_piece 206 = .ok (.ireturn, 1) := by decide +kernel
theorem dX6_commands_0 : decode cX6_commands 0 = .ok (.iconst 0, 1) := by decide +kernel
theorem dX6_commands_1 : decode cX6_commands 1 = .ok (.istore_n 2, 1) := by decide +kernel
theorem dX6_commands_2 : decode cX6_commands 2 = .ok (.iload_n 2, 1) := by decide +kernel
theorem dX6_commands_3 : decode cX6_commands 3 = .ok (.iload_n 1, 1) := by decide +kernel
theorem dX6_commands_4 : decode cX6_commands 4 = .ok (.if_icmp .ge 135, 3) := by decide +kernel
theorem dX6_commands_7 : decode cX6_commands 7 = .ok (.aload_n 0, 1) := by decide +kernel
theorem dX6_commands_8 : decode cX6_commands 8 = .ok (.getfield 59, 3) := by decide +kernel
theorem dX6_commands_11 : decode cX6_commands 11 = .ok (.ifCond .ne 128, 3) := by decide +kernel
theorem dX6_commands_14 : decode cX6_commands 14 = .ok (.aload_n 0, 1) := by decide +kernel
theorem dX6_commands_15 : decode cX6_commands 15 = .ok (.iconst 4, 1) := by decide +kernel
theorem dX6_commands_16 : decode cX6_commands 16 = .ok (.invokevirtual 106, 3) := by decide +kernel
theorem dX6_commands_19 : decode cX6_commands 19 = .ok (.istore_n 3, 1) := by decide +kernel
theorem dX6_commands_20 : decode cX6_commands 20 = .ok (.aload_n 0, 1) := by decide +kernel
theorem dX6_commands_21 : decode cX6_commands 21 = .ok (.iload_n 3, 1) := by decide +kernel
theorem dX6_commands_22 : decode cX6_commands 22 = .ok (.iconst 4, 1) := by decide +kernel
theorem dX6_commands_23 : decode cX6_commands 23 = .ok (.idiv, 1) := by decide +kernel
theorem dX6_commands_24 : decode cX6_commands 24 = .ok (.iconst 0, 1) := by decide +kernel
theorem dX6_commands_25 : decode cX6_commands 25 = .ok (.invokevirtual 123, 3) := by decide +kernel
theorem dX6_commands_28 : decode cX6_commands 28 = .ok (.aload_n 0, 1) := by decide +kernel
theorem dX6_commands_29 : decode cX6_commands 29 = .ok (.iload_n 3, 1) := by decide +kernel
theorem dX6_commands_30 : decode cX6_commands 30 = .ok (.iconst 4, 1) := by decide +kernel
theorem dX6_commands_31 : decode cX6_commands 31 = .ok (.idiv, 1) := by decide +kernel
theorem dX6_commands_32 : decode cX6_commands 32 = .ok (.invokevirtual 66, 3) := by decide +kernel
theorem dX6_commands_35 : decode cX6_commands 35 = .ok (.iadd, 1) := by decide +kernel
theorem dX6_commands_36 : decode cX6_commands 36 = .ok (.istore 4, 2) := by decide +kernel
theorem dX6_commands_38 : decode cX6_commands 38 = .ok (.aload_n 0, 1) := by decide +kernel
theorem dX6_commands_39 : decode cX6_commands 39 = .ok (.iload_n 3, 1) := by decide +kernel
theorem dX6_commands_40 : decode cX6_commands 40 = .ok (.iconst 4, 1) := by decide +kernel
theorem dX6_commands_41 : decode cX6_commands 41 = .ok (.irem, 1) := by decide +kernel
theorem dX6_commands_42 : decode cX6_commands 42 = .ok (.iconst 2, 1) := by decide +kernel
theorem dX6_commands_43 : decode cX6_commands 43 = .ok (.invokevirtual 123, 3) := by decide +kernel
theorem dX6_commands_46 : decode cX6_commands 46 = .ok (.aload_n 0, 1) := by decide +kernel
theorem dX6_commands_47 : decode cX6_commands 47 = .ok (.iload_n 3, 1) := by decide +kernel
theorem dX6_commands_48 : decode cX6_commands 48 = .ok (.iconst 4, 1) := by decide +kernel
theorem dX6_commands_49 : decode cX6_commands 49 = .ok (.irem, 1) := by decide +kernel
theorem dX6_commands_50 : decode cX6_commands 50 = .ok (.invokevirtual 66, 3) := by decide +kernel
theorem dX6_commands_53 : decode cX6_commands 53 = .ok (.iadd, 1) := by decide +kernel
theorem dX6_commands_54 : decode cX6_commands 54 = .ok (.istore 5, 2) := by decide +kernel
theorem dX6_commands_56 : decode cX6_commands 56 = .ok (.aload_n 0, 1) := by decide +kernel
theorem dX6_commands_57 : decode cX6_commands 57 = .ok (.aload_n 0, 1) := by decide +kernel
theorem dX6_commands_58 : decode cX6_commands 58 = .ok (.getfield 59, 3) := by decide +kernel
theorem dX6_commands_61 : decode cX6_commands 61 = .ok (.ifCond .ne 11, 3) := by decide +kernel
theorem dX6_commands_64 : decode cX6_commands 64 = .ok (.iload_n 2, 1) := by decide +kernel
theorem dX6_commands_65 : decode cX6_commands 65 = .ok (.iload 4, 2) := by decide +kernel
theorem dX6_commands_67 : decode cX6_commands 67 = .ok (.iadd, 1) := by decide +kernel
theorem dX6_commands_68 : decode cX6_commands 68 = .ok (.iload_n 1, 1) := by decide +kernel
theorem dX6_commands_69 : decode cX6_commands 69 = .ok (.if_icmp .le 7, 3) := by decide +kernel
theorem dX6_commands_72 : decode cX6_commands 72 = .ok (.iconst 1, 1) := by decide +kernel
theorem dX6_commands_73 : decode cX6_commands 73 = .ok (.goto 4, 3) := by decide +kernel
theorem dX6_commands_76 : decode cX6_commands 76 = .ok (.iconst 0, 1) := by decide +kernel
theorem dX6_commands_77 : decode cX6_commands 77 = .ok (.putfield 59, 3) := by decide +kernel
theorem dX6_commands_80 : decode cX6_commands 80 = .ok (.iconst 0, 1) := by decide +kernel
theorem dX6_commands_81 : decode cX6_commands 81 = .ok (.istore 6, 2) := by decide +kernel
theorem dX6_commands_83 : decode cX6_commands 83 = .ok (.iload 6, 2) := by decide +kernel
theorem dX6_commands_85 : decode cX6_commands 85 = .ok (.iload 4, 2) := by decide +kernel
theorem dX6_commands_87 : decode cX6_commands 87 = .ok (.if_icmp .ge 20, 3) := by decide +kernel
theorem dX6_commands_90 : decode cX6_commands 90 = .ok (.aload_n 0, 1) := by decide +kernel
theorem dX6_commands_91 : decode cX6_commands 91 = .ok (.getfield 59, 3) := by decide +kernel
theorem dX6_commands_94 : decode cX6_commands 94 = .ok (.ifCond .ne 13, 3) := by decide +kernel
theorem dX6_commands_97 : decode cX6_commands 97 = .ok (.aload_n 0, 1) := by decide +kernel
theorem dX6_commands_98 : decode cX6_commands 98 = .ok (.invokevirtual 126, 3) := by decide +kernel
theorem dX6_commands_101 : decode cX6_commands 101 = .ok (.iinc 6 1, 3) := by decide +kernel
theorem dX6_commands_104 : decode cX6_commands 104 = .ok (.goto (-21), 3) := by decide +kernel
theorem dX6_commands_107 : decode cX6_commands 107 = .ok (.iload_n 2, 1) := by decide +kernel
theorem dX6_commands_108 : decode cX6_commands 108 = .ok (.iload 4, 2) := by decide +kernel
theorem dX6_commands_110 : decode cX6_commands 110 = .ok (.iadd, 1) := by decide +kernel
theorem dX6_commands_111 : decode cX6_commands 111 = .ok (.istore_n 2, 1) := by decide +kernel
theorem dX6_commands_112 : decode cX6_commands 112 = .ok (.iload_n 2, 1) := by decide +kernel
theorem dX6_commands_113 : decode cX6_commands 113 = .ok (.iload_n 1, 1) := by decide +kernel
theorem dX6_commands_114 : decode cX6_commands 114 = .ok (.if_icmp .ge 22, 3) := by decide +kernel
theorem dX6_commands_117 : decode cX6_commands 117 = .ok (.aload_n 0, 1) := by decide +kernel
theorem dX6_commands_118 : decode cX6_commands 118 = .ok (.getfield 59, 3) := by decide +kernel
theorem dX6_commands_121 : decode cX6_commands 121 = .ok (.ifCond .ne 15, 3) := by decide +kernel
theorem dX6_commands_124 : decode cX6_commands 124 = .ok (.iload_n 2, 1) := by decide +kernel
theorem dX6_commands_125 : decode cX6_commands 125 = .ok (.aload_n 0, 1) := by decide +kernel
theorem dX6_commands_126 : decode cX6_commands 126 = .ok (.iload 5, 2) := by decide +kernel
theorem dX6_commands_128 : decode cX6_commands 128 = .ok (.iload_n 1, 1) := by decide +kernel
theorem dX6_commands_129 : decode cX6_commands 129 = .ok (.iload_n 2, 1) := by decide +kernel
theorem dX6_commands_130 : decode cX6_commands 130 = .ok (.isub, 1) := by decide +kernel
theorem dX6_commands_131 : decode cX6_commands 131 = .ok (.invokevirtual 129, 3) := by decide +kernel
theorem dX6_commands_134 : decode cX6_commands 134 = .ok (.iadd, 1) := by decide +kernel
theorem dX6_commands_135 : decode cX6_commands 135 = .ok (.istore_n 2, 1) := by decide +kernel
theorem dX6_commands_136 : decode cX6_commands 136 = .ok (.goto (-134), 3) := by decide +kernel
theorem dX6_commands_139 : decode cX6_commands 139 = .ok (.return_, 1) := by decide +kernel
theorem dX6_block_0 : decode cX6_block 0 = .ok (.aload_n 0, 1) := by decide +kernel
theorem dX6_block_1 : decode cX6_block 1 = .ok (.iconst 1, 1) := by decide +kernel
theorem dX6_block_2 : decode cX6_block 2 = .ok (.invokevirtual 66, 3) := by decide +kernel
theorem dX6_block_5 : decode cX6_block 5 = .ok (.iconst 1, 1) := by decide +kernel
theorem dX6_block_6 : decode cX6_block 6 = .ok (.if_icmp .ne 7, 3) := by decide +kernel
theorem dX6_block_9 : decode cX6_block 9 = .ok (.iconst 1, 1) := by decide +kernel
theorem dX6_block_10 : decode cX6_block 10 = .ok (.goto 4, 3) := by decide +kernel
theorem dX6_block_13 : decode cX6_block 13 = .ok (.iconst 0, 1) := by decide +kernel
theorem dX6_block_14 : decode cX6_block 14 = .ok (.istore_n 1, 1) := by decide +kernel
theorem dX6_block_15 : decode cX6_block 15 = .ok (.iload_n 1, 1) := by decide +kernel
theorem dX6_block_16 : decode cX6_block 16 = .ok (.ifCond .eq 16, 3) := by decide +kernel
theorem dX6_block_19 : decode cX6_block 19 = .ok (.aload_n 0, 1) := by decide +kernel
theorem dX6_block_20 : decode cX6_block 20 = .ok (.iconst 1, 1) := by decide +kernel
theorem dX6_block_21 : decode cX6_block 21 = .ok (.invokevirtual 66, 3) := by decide +kernel
theorem dX6_block_24 : decode cX6_block 24 = .ok (.iconst 1, 1) := by decide +kernel
theorem dX6_block_25 : decode cX6_block 25 = .ok (.if_icmp .ne 7, 3) := by decide +kernel
theorem dX6_block_28 : decode cX6_block 28 = .ok (.iconst 1, 1) := by decide +kernel
theorem dX6_block_29 : decode cX6_block 29 = .ok (.goto 4, 3) := by decide +kernel
theorem dX6_block_32 : decode cX6_block 32 = .ok (.iconst 0, 1) := by decide +kernel
theorem dX6_block_33 : decode cX6_block 33 = .ok (.istore_n 2, 1) := by decide +kernel
theorem dX6_block_34 : decode cX6_block 34 = .ok (.aload_n 0, 1) := by decide +kernel
theorem dX6_block_35 : decode cX6_block 35 = .ok (.getfield 59, 3) := by decide +kernel
theorem dX6_block_38 : decode cX6_block 38 = .ok (.ifCond .eq 5, 3) := by decide +kernel
theorem dX6_block_41 : decode cX6_block 41 = .ok (.iconst 1, 1) := by decide +kernel
theorem dX6_block_42 : decode cX6_block 42 = .ok (.ireturn, 1) := by decide +kernel
theorem dX6_block_43 : decode cX6_block 43 = .ok (.iload_n 2, 1) := by decide +kernel
theorem dX6_block_44 : decode cX6_block 44 = .ok (.ifCond .eq 15, 3) := by decide +kernel
theorem dX6_block_47 : decode cX6_block 47 = .ok (.aload_n 0, 1) := by decide +kernel
theorem dX6_block_48 : decode cX6_block 48 = .ok (.getfield 23, 3) := by decide +kernel
theorem dX6_block_51 : decode cX6_block 51 = .ok (.iconst 0, 1) := by decide +kernel
theorem dX6_block_52 : decode cX6_block 52 = .ok (.dup2, 1) := by decide +kernel
theorem dX6_block_53 : decode cX6_block 53 = .ok (.iaload, 1) := by decide +kernel
theorem dX6_block_54 : decode cX6_block 54 = .ok (.iconst 1, 1) := by decide +kernel
theorem dX6_block_55 : decode cX6_block 55 = .ok (.iadd, 1) := by decide +kernel
theorem dX6_block_56 : decode cX6_block 56 = .ok (.iastore, 1) := by decide +kernel
theorem dX6_block_57 : decode cX6_block 57 = .ok (.iconst 1, 1) := by decide +kernel
theorem dX6_block_58 : decode cX6_block 58 = .ok (.ireturn, 1) := by decide +kernel
theorem dX6_block_59 : decode cX6_block 59 = .ok (.aload_n 0, 1) := by decide +kernel
theorem dX6_block_60 : decode cX6_block 60 = .ok (.bipush 8, 2) := by decide +kernel
theorem dX6_block_62 : decode cX6_block 62 = .ok (.invokevirtual 66, 3) := by decide +kernel
theorem dX6_block_65 : decode cX6_block 65 = .ok (.iconst 1, 1) := by decide +kernel
theorem dX6_block_66 : decode cX6_block 66 = .ok (.iadd, 1) := by decide +kernel
theorem dX6_block_67 : decode cX6_block 67 = .ok (.istore_n 3, 1) := by decide +kernel
theorem dX6_block_68 : decode cX6_block 68 = .ok (.aload_n 0, 1) := by decide +kernel
theorem dX6_block_69 : decode cX6_block 69 = .ok (.aload_n 0, 1) := by decide +kernel
theorem dX6_block_70 : decode cX6_block 70 = .ok (.getfield 59, 3) := by decide +kernel
theorem dX6_block_73 : decode cX6_block 73 = .ok (.ifCond .ne 15, 3) := by decide +kernel
theorem dX6_block_76 : decode cX6_block 76 = .ok (.aload_n 0, 1) := by decide +kernel
theorem dX6_block_77 : decode cX6_block 77 = .ok (.getfield 85, 3) := by decide +kernel
theorem dX6_block_80 : decode cX6_block 80 = .ok (.iload_n 3, 1) := by decide +kernel
theorem dX6_block_81 : decode cX6_block 81 = .ok (.iadd, 1) := by decide +kernel
theorem dX6_block_82 : decode cX6_block 82 = .ok (.sipush 400, 3) := by decide +kernel
theorem dX6_block_85 : decode cX6_block 85 = .ok (.if_icmp .le 7, 3) := by decide +kernel
theorem dX6_block_88 : decode cX6_block 88 = .ok (.iconst 1, 1) := by decide +kernel
theorem dX6_block_89 : decode cX6_block 89 = .ok (.goto 4, 3) := by decide +kernel
theorem dX6_block_92 : decode cX6_block 92 = .ok (.iconst 0, 1) := by decide +kernel
theorem dX6_block_93 : decode cX6_block 93 = .ok (.putfield 59, 3) := by decide +kernel
theorem dX6_block_96 : decode cX6_block 96 = .ok (.aload_n 0, 1) := by decide +kernel
theorem dX6_block_97 : decode cX6_block 97 = .ok (.getfield 59, 3) := by decide +kernel
theorem dX6_block_100 : decode cX6_block 100 = .ok (.ifCond .ne 20, 3) := by decide +kernel
theorem dX6_block_103 : decode cX6_block 103 = .ok (.iload_n 1, 1) := by decide +kernel
theorem dX6_block_104 : decode cX6_block 104 = .ok (.ifCond .ne 16, 3) := by decide +kernel
theorem dX6_block_107 : decode cX6_block 107 = .ok (.aload_n 0, 1) := by decide +kernel
theorem dX6_block_108 : decode cX6_block 108 = .ok (.iconst 1, 1) := by decide +kernel
theorem dX6_block_109 : decode cX6_block 109 = .ok (.invokevirtual 66, 3) := by decide +kernel
theorem dX6_block_112 : decode cX6_block 112 = .ok (.iconst 1, 1) := by decide +kernel
theorem dX6_block_113 : decode cX6_block 113 = .ok (.if_icmp .ne 7, 3) := by decide +kernel
theorem dX6_block_116 : decode cX6_block 116 = .ok (.iconst 1, 1) := by decide +kernel
theorem dX6_block_117 : decode cX6_block 117 = .ok (.goto 4, 3) := by decide +kernel
theorem dX6_block_120 : decode cX6_block 120 = .ok (.iconst 0, 1) := by decide +kernel
theorem dX6_block_121 : decode cX6_block 121 = .ok (.istore 4, 2) := by decide +kernel
theorem dX6_block_123 : decode cX6_block 123 = .ok (.aload_n 0, 1) := by decide +kernel
theorem dX6_block_124 : decode cX6_block 124 = .ok (.getfield 59, 3) := by decide +kernel
theorem dX6_block_127 : decode cX6_block 127 = .ok (.ifCond .eq 5, 3) := by decide +kernel
theorem dX6_block_130 : decode cX6_block 130 = .ok (.iconst 1, 1) := by decide +kernel
theorem dX6_block_131 : decode cX6_block 131 = .ok (.ireturn, 1) := by decide +kernel
theorem dX6_block_132 : decode cX6_block 132 = .ok (.aload_n 0, 1) := by decide +kernel
theorem dX6_block_133 : decode cX6_block 133 = .ok (.getfield 23, 3) := by decide +kernel
theorem dX6_block_136 : decode cX6_block 136 = .ok (.iconst 0, 1) := by decide +kernel
theorem dX6_block_137 : decode cX6_block 137 = .ok (.dup2, 1) := by decide +kernel
theorem dX6_block_138 : decode cX6_block 138 = .ok (.iaload, 1) := by decide +kernel
theorem dX6_block_139 : decode cX6_block 139 = .ok (.iconst 1, 1) := by decide +kernel
theorem dX6_block_140 : decode cX6_block 140 = .ok (.iadd, 1) := by decide +kernel
theorem dX6_block_141 : decode cX6_block 141 = .ok (.iastore, 1) := by decide +kernel
theorem dX6_block_142 : decode cX6_block 142 = .ok (.iload 4, 2) := by decide +kernel
theorem dX6_block_144 : decode cX6_block 144 = .ok (.ifCond .eq 11, 3) := by decide +kernel
theorem dX6_block_147 : decode cX6_block 147 = .ok (.aload_n 0, 1) := by decide +kernel
theorem dX6_block_148 : decode cX6_block 148 = .ok (.iload_n 3, 1) := by decide +kernel
theorem dX6_block_149 : decode cX6_block 149 = .ok (.invokevirtual 132, 3) := by decide +kernel
theorem dX6_block_152 : decode cX6_block 152 = .ok (.goto 12, 3) := by decide +kernel
theorem dX6_block_155 : decode cX6_block 155 = .ok (.aload_n 0, 1) := by decide +kernel
theorem dX6_block_156 : decode cX6_block 156 = .ok (.invokevirtual 135, 3) := by decide +kernel
theorem dX6_block_159 : decode cX6_block 159 = .ok (.aload_n 0, 1) := by decide +kernel
theorem dX6_block_160 : decode cX6_block 160 = .ok (.iload_n 3, 1) := by decide +kernel
theorem dX6_block_161 : decode cX6_block 161 = .ok (.invokevirtual 138, 3) := by decide +kernel
theorem dX6_block_164 : decode cX6_block 164 = .ok (.iload_n 1, 1) := by decide +kernel
theorem dX6_block_165 : decode cX6_block 165 = .ok (.ireturn, 1) := by decide +kernel
theorem dX6_unfold_0 : decode cX6_unfold 0 = .ok (.aload_n 0, 1) := by decide +kernel
theorem dX6_unfold_1 : decode cX6_unfold 1 = .ok (.iconst 0, 1) := by decide +kernel
theorem dX6_unfold_2 : decode cX6_unfold 2 = .ok (.putfield 63, 3) := by decide +kernel
theorem dX6_unfold_5 : decode cX6_unfold 5 = .ok (.aload_n 0, 1) := by decide +kernel
theorem dX6_unfold_6 : decode cX6_unfold 6 = .ok (.iconst 0, 1) := by decide +kernel
theorem dX6_unfold_7 : decode cX6_unfold 7 = .ok (.putfield 85, 3) := by decide +kernel
theorem dX6_unfold_10 : decode cX6_unfold 10 = .ok (.aload_n 0, 1) := by decide +kernel
theorem dX6_unfold_11 : decode cX6_unfold 11 = .ok (.iconst 0, 1) := by decide +kernel
theorem dX6_unfold_12 : decode cX6_unfold 12 = .ok (.putfield 59, 3) := by decide +kernel
theorem dX6_unfold_15 : decode cX6_unfold 15 = .ok (.aload_n 0, 1) := by decide +kernel
theorem dX6_unfold_16 : decode cX6_unfold 16 = .ok (.aload_n 0, 1) := by decide +kernel
theorem dX6_unfold_17 : decode cX6_unfold 17 = .ok (.getfield 23, 3) := by decide +kernel
theorem dX6_unfold_20 : decode cX6_unfold 20 = .ok (.invokevirtual 44, 3) := by decide +kernel
theorem dX6_unfold_23 : decode cX6_unfold 23 = .ok (.iconst 0, 1) := by decide +kernel
theorem dX6_unfold_24 : decode cX6_unfold 24 = .ok (.istore_n 1, 1) := by decide +kernel
theorem dX6_unfold_25 : decode cX6_unfold 25 = .ok (.iload_n 1, 1) := by decide +kernel
theorem dX6_unfold_26 : decode cX6_unfold 26 = .ok (.ifCond .ne 18, 3) := by decide +kernel
theorem dX6_unfold_29 : decode cX6_unfold 29 = .ok (.aload_n 0, 1) := by decide +kernel
theorem dX6_unfold_30 : decode cX6_unfold 30 = .ok (.getfield 59, 3) := by decide +kernel
theorem dX6_unfold_33 : decode cX6_unfold 33 = .ok (.ifCond .ne 11, 3) := by decide +kernel
theorem dX6_unfold_36 : decode cX6_unfold 36 = .ok (.aload_n 0, 1) := by decide +kernel
theorem dX6_unfold_37 : decode cX6_unfold 37 = .ok (.invokevirtual 141, 3) := by decide +kernel
theorem dX6_unfold_40 : decode cX6_unfold 40 = .ok (.istore_n 1, 1) := by decide +kernel
theorem dX6_unfold_41 : decode cX6_unfold 41 = .ok (.goto (-16), 3) := by decide +kernel
theorem dX6_unfold_44 : decode cX6_unfold 44 = .ok (.aload_n 0, 1) := by decide +kernel
theorem dX6_unfold_45 : decode cX6_unfold 45 = .ok (.aload_n 0, 1) := by decide +kernel
theorem dX6_unfold_46 : decode cX6_unfold 46 = .ok (.getfield 59, 3) := by decide +kernel
theorem dX6_unfold_49 : decode cX6_unfold 49 = .ok (.ifCond .eq 7, 3) := by decide +kernel
theorem dX6_unfold_52 : decode cX6_unfold 52 = .ok (.iconst 1, 1) := by decide +kernel
theorem dX6_unfold_53 : decode cX6_unfold 53 = .ok (.goto 4, 3) := by decide +kernel
theorem dX6_unfold_56 : decode cX6_unfold 56 = .ok (.iconst 0, 1) := by decide +kernel
theorem dX6_unfold_57 : decode cX6_unfold 57 = .ok (.putfield 48, 3) := by decide +kernel
theorem dX6_unfold_60 : decode cX6_unfold 60 = .ok (.aload_n 0, 1) := by decide +kernel
theorem dX6_unfold_61 : decode cX6_unfold 61 = .ok (.getfield 59, 3) := by decide +kernel
theorem dX6_unfold_64 : decode cX6_unfold 64 = .ok (.ifCond .eq 5, 3) := by decide +kernel
theorem dX6_unfold_67 : decode cX6_unfold 67 = .ok (.iconst 0, 1) := by decide +kernel
theorem dX6_unfold_68 : decode cX6_unfold 68 = .ok (.ireturn, 1) := by decide +kernel
theorem dX6_unfold_69 : decode cX6_unfold 69 = .ok (.aload_n 0, 1) := by decide +kernel
theorem dX6_unfold_70 : decode cX6_unfold 70 = .ok (.aload_n 0, 1) := by decide +kernel
theorem dX6_unfold_71 : decode cX6_unfold 71 = .ok (.getfield 85, 3) := by decide +kernel
theorem dX6_unfold_74 : decode cX6_unfold 74 = .ok (.putfield 145, 3) := by decide +kernel
theorem dX6_unfold_77 : decode cX6_unfold 77 = .ok (.iconst 0, 1) := by decide +kernel
theorem dX6_unfold_78 : decode cX6_unfold 78 = .ok (.istore_n 2, 1) := by decide +kernel
theorem dX6_unfold_79 : decode cX6_unfold 79 = .ok (.iload_n 2, 1) := by decide +kernel
theorem dX6_unfold_80 : decode cX6_unfold 80 = .ok (.aload_n 0, 1) := by decide +kernel
theorem dX6_unfold_81 : decode cX6_unfold 81 = .ok (.getfield 85, 3) := by decide +kernel
theorem dX6_unfold_84 : decode cX6_unfold 84 = .ok (.if_icmp .ge 21, 3) := by decide +kernel
theorem dX6_unfold_87 : decode cX6_unfold 87 = .ok (.aload_n 0, 1) := by decide +kernel
theorem dX6_unfold_88 : decode cX6_unfold 88 = .ok (.getfield 13, 3) := by decide +kernel
theorem dX6_unfold_91 : decode cX6_unfold 91 = .ok (.iload_n 2, 1) := by decide +kernel
theorem dX6_unfold_92 : decode cX6_unfold 92 = .ok (.aload_n 0, 1) := by decide +kernel
theorem dX6_unfold_93 : decode cX6_unfold 93 = .ok (.getfield 17, 3) := by decide +kernel
theorem dX6_unfold_96 : decode cX6_unfold 96 = .ok (.iload_n 2, 1) := by decide +kernel
theorem dX6_unfold_97 : decode cX6_unfold 97 = .ok (.iaload, 1) := by decide +kernel
theorem dX6_unfold_98 : decode cX6_unfold 98 = .ok (.iastore, 1) := by decide +kernel
theorem dX6_unfold_99 : decode cX6_unfold 99 = .ok (.iinc 2 1, 3) := by decide +kernel
theorem dX6_unfold_102 : decode cX6_unfold 102 = .ok (.goto (-23), 3) := by decide +kernel
theorem dX6_unfold_105 : decode cX6_unfold 105 = .ok (.iconst 0, 1) := by decide +kernel
theorem dX6_unfold_106 : decode cX6_unfold 106 = .ok (.istore_n 2, 1) := by decide +kernel
theorem dX6_unfold_107 : decode cX6_unfold 107 = .ok (.iload_n 2, 1) := by decide +kernel
theorem dX6_unfold_108 : decode cX6_unfold 108 = .ok (.bipush 9, 2) := by decide +kernel
theorem dX6_unfold_110 : decode cX6_unfold 110 = .ok (.if_icmp .ge 21, 3) := by decide +kernel
theorem dX6_unfold_113 : decode cX6_unfold 113 = .ok (.aload_n 0, 1) := by decide +kernel
theorem dX6_unfold_114 : decode cX6_unfold 114 = .ok (.getfield 20, 3) := by decide +kernel
theorem dX6_unfold_117 : decode cX6_unfold 117 = .ok (.iload_n 2, 1) := by decide +kernel
theorem dX6_unfold_118 : decode cX6_unfold 118 = .ok (.aload_n 0, 1) := by decide +kernel
theorem dX6_unfold_119 : decode cX6_unfold 119 = .ok (.getfield 23, 3) := by decide +kernel
theorem dX6_unfold_122 : decode cX6_unfold 122 = .ok (.iload_n 2, 1) := by decide +kernel
theorem dX6_unfold_123 : decode cX6_unfold 123 = .ok (.iaload, 1) := by decide +kernel
theorem dX6_unfold_124 : decode cX6_unfold 124 = .ok (.iastore, 1) := by decide +kernel
theorem dX6_unfold_125 : decode cX6_unfold 125 = .ok (.iinc 2 1, 3) := by decide +kernel
theorem dX6_unfold_128 : decode cX6_unfold 128 = .ok (.goto (-21), 3) := by decide +kernel
theorem dX6_unfold_131 : decode cX6_unfold 131 = .ok (.aload_n 0, 1) := by decide +kernel
theorem dX6_unfold_132 : decode cX6_unfold 132 = .ok (.getfield 145, 3) := by decide +kernel
theorem dX6_unfold_135 : decode cX6_unfold 135 = .ok (.ireturn, 1) := by decide +kernel
theorem dX6_taken_0 : decode cX6_taken 0 = .ok (.aload_n 0, 1) := by decide +kernel
theorem dX6_taken_1 : decode cX6_taken 1 = .ok (.iconst 0, 1) := by decide +kernel
theorem dX6_taken_2 : decode cX6_taken 2 = .ok (.putfield 48, 3) := by decide +kernel
theorem dX6_taken_5 : decode cX6_taken 5 = .ok (.aload_n 0, 1) := by decide +kernel
theorem dX6_taken_6 : decode cX6_taken 6 = .ok (.getfield 63, 3) := by decide +kernel
theorem dX6_taken_9 : decode cX6_taken 9 = .ok (.ireturn, 1) := by decide +kernel
theorem dX6_letter_0 : decode cX6_letter 0 = .ok (.aload_n 0, 1) := by decide +kernel
theorem dX6_letter_1 : decode cX6_letter 1 = .ok (.iload_n 1, 1) := by decide +kernel
theorem dX6_letter_2 : decode cX6_letter 2 = .ok (.ifCond .lt 11, 3) := by decide +kernel
theorem dX6_letter_5 : decode cX6_letter 5 = .ok (.iload_n 1, 1) := by decide +kernel
theorem dX6_letter_6 : decode cX6_letter 6 = .ok (.aload_n 0, 1) := by decide +kernel
theorem dX6_letter_7 : decode cX6_letter 7 = .ok (.getfield 145, 3) := by decide +kernel
theorem dX6_letter_10 : decode cX6_letter 10 = .ok (.if_icmp .lt 7, 3) := by decide +kernel
theorem dX6_letter_13 : decode cX6_letter 13 = .ok (.iconst 1, 1) := by decide +kernel
theorem dX6_letter_14 : decode cX6_letter 14 = .ok (.goto 4, 3) := by decide +kernel
theorem dX6_letter_17 : decode cX6_letter 17 = .ok (.iconst 0, 1) := by decide +kernel
theorem dX6_letter_18 : decode cX6_letter 18 = .ok (.putfield 48, 3) := by decide +kernel
theorem dX6_letter_21 : decode cX6_letter 21 = .ok (.aload_n 0, 1) := by decide +kernel
theorem dX6_letter_22 : decode cX6_letter 22 = .ok (.getfield 48, 3) := by decide +kernel
theorem dX6_letter_25 : decode cX6_letter 25 = .ok (.ifCond .ne 12, 3) := by decide +kernel
theorem dX6_letter_28 : decode cX6_letter 28 = .ok (.aload_n 0, 1) := by decide +kernel
theorem dX6_letter_29 : decode cX6_letter 29 = .ok (.getfield 13, 3) := by decide +kernel
theorem dX6_letter_32 : decode cX6_letter 32 = .ok (.iload_n 1, 1) := by decide +kernel
theorem dX6_letter_33 : decode cX6_letter 33 = .ok (.iaload, 1) := by decide +kernel
theorem dX6_letter_34 : decode cX6_letter 34 = .ok (.goto 4, 3) := by decide +kernel
theorem dX6_letter_37 : decode cX6_letter 37 = .ok (.iconst 0, 1) := by decide +kernel
theorem dX6_letter_38 : decode cX6_letter 38 = .ok (.ireturn, 1) := by decide +kernel
theorem dX6_count_0 : decode cX6_count 0 = .ok (.aload_n 0, 1) := by decide +kernel
theorem dX6_count_1 : decode cX6_count 1 = .ok (.iload_n 1, 1) := by decide +kernel
theorem dX6_count_2 : decode cX6_count 2 = .ok (.ifCond .lt 9, 3) := by decide +kernel
theorem dX6_count_5 : decode cX6_count 5 = .ok (.iload_n 1, 1) := by decide +kernel
theorem dX6_count_6 : decode cX6_count 6 = .ok (.bipush 8, 2) := by decide +kernel
theorem dX6_count_8 : decode cX6_count 8 = .ok (.if_icmp .le 7, 3) := by decide +kernel
theorem dX6_count_11 : decode cX6_count 11 = .ok (.iconst 1, 1) := by decide +kernel
theorem dX6_count_12 : decode cX6_count 12 = .ok (.goto 4, 3) := by decide +kernel
theorem dX6_count_15 : decode cX6_count 15 = .ok (.iconst 0, 1) := by decide +kernel
theorem dX6_count_16 : decode cX6_count 16 = .ok (.putfield 48, 3) := by decide +kernel
theorem dX6_count_19 : decode cX6_count 19 = .ok (.aload_n 0, 1) := by decide +kernel
theorem dX6_count_20 : decode cX6_count 20 = .ok (.getfield 48, 3) := by decide +kernel
theorem dX6_count_23 : decode cX6_count 23 = .ok (.ifCond .ne 12, 3) := by decide +kernel
theorem dX6_count_26 : decode cX6_count 26 = .ok (.aload_n 0, 1) := by decide +kernel
theorem dX6_count_27 : decode cX6_count 27 = .ok (.getfield 20, 3) := by decide +kernel
theorem dX6_count_30 : decode cX6_count 30 = .ok (.iload_n 1, 1) := by decide +kernel
theorem dX6_count_31 : decode cX6_count 31 = .ok (.iaload, 1) := by decide +kernel
theorem dX6_count_32 : decode cX6_count 32 = .ok (.goto 4, 3) := by decide +kernel
theorem dX6_count_35 : decode cX6_count 35 = .ok (.iconst 0, 1) := by decide +kernel
theorem dX6_count_36 : decode cX6_count 36 = .ok (.ireturn, 1) := by decide +kernel
end
section
/-! What all methods share: words, statics, strings; contracts; entries, ends, calls. -/
/-- ContextUnfolder$Output.COUNTS_AT_FIRST -/
def xs_counts : Nat → Int32 := fun k => (([0, 0, 0, 0, 0, 4, 11, 15, 16] : List Int32).getD k 0)
/-- ContextUnfolder$Code.SIMPLE_LENGTHS -/
def xs_simple : Nat → Int32 := fun k => (([0, 1, 1, 1, 2, 2, 2, 2, 2, 2, 1, 2, 3, 3] : List Int32).getD k 0)
/-- ContextUnfolder$BlockReader.LEAST_INSERTED -/
def xs_ins : Nat → Int32 := fun k => (([0, 1, 3, 7] : List Int32).getD k 0)
/-- ContextUnfolder$BlockReader.LEAST_COPIED -/
def xs_cop : Nat → Int32 := fun k => (([2, 3, 5, 9] : List Int32).getD k 0)
def xg_S : List (String × Nat × String) := [("ContextUnfolder", 35, "n is not 0 .. 24"), ("ContextUnfolder", 40, "v is not a number of n bits"), ("ContextUnfolder", 48, "there would be more than 2000 bits"), ("ContextUnfolder", 57, "there is no such bit"), ("ContextUnfolder", 64, "the stream has no first n bits"), ("ContextUnfolder$Stream", 24, "the stream ends too early"), ("ContextUnfolder$BlockReader", 49, "there would be more than 400 letters"), ("ContextUnfolder$LetterReader", 42, "there are four types"), ("ContextUnfolder$Code", 52, "a symbol of a simple code is wrong"), ("ContextUnfolder$Code", 57, "a code has too little room"), ("ContextUnfolder$Code", 59, "a code has room left"), ("ContextUnfolder$LetterReader", 77, "the map tells a code that is not there"), ("ContextUnfolder$Code", 44, "there is no such word"), ("ContextUnfolder$BlockReader", 125, "the block would have more than its length"), ("ContextUnfolder$BlockReader", 123, "there is no such word"), ("ContextUnfolder", 77, "there is no such letter"), ("ContextUnfolder", 83, "there is no such number")]
/-- words that hold in warmer tables too -/
def xg_mov (w : Cond) : Bool := match w with
  | .fieldLinkNest .. => true
  | .methodLinkNest .. => true
  | .arrayClass _ => true
  | w => w.onTables && w.keepsFace
theorem xg_warm {w : Cond} {A A' : Array Value} {s U : State} (hm : xg_mov w = true) (hW : s.WarmedH U.vm) (h : w.before A s = true) : w.before A' U = true := by
  have key : (w.onTables && w.keepsFace) = true → w.before A' U = true := by
    intro hk
    simp only [Bool.and_eq_true] at hk
    have h1 : w.before A (s.setVm U.vm) = true := Cond.before_shiftedFace (State.Shifted.of_warmed hW) w hk.2 h
    exact va_tabs hk.1 (rfl : (s.setVm U.vm).vm = U.vm) h1
  cases w with
  | fieldLinkNest a i b n d hh => exact va_Nw.use rfl (va_Nw.warmF hW (va_Nw.of rfl h))
  | methodLinkNest a i x hh => exact va_Nw.use rfl (va_Nw.warmM hW (va_Nw.of rfl h))
  | arrayClass ty => exact word_at hW (Or.inr ⟨ty, rfl⟩) h
  | _ => exact key hm
/-- all words of the tables that keep -/
def xg_B : List Cond := lw_tbl.filter xg_mov
theorem xg_at {w : Cond} (i : Nat) (h : lw_tbl[i]? = some w) (hm : xg_mov w = true) : w ∈ xg_B := List.mem_filter.mpr ⟨List.mem_of_getElem? h, hm⟩
theorem xg_ok {w : Cond} (h : w ∈ xg_B) : xg_mov w = true := (List.mem_filter.mp h).2
theorem xg_ts {A A' : Array Value} {s U : State} (hW : s.WarmedH U.vm) (h : ∀ w ∈ xg_B, w.before A s = true) : ∀ w ∈ xg_B, w.before A' U = true := fun w hw => xg_warm (xg_ok hw) hW (h w hw)
/-- a static array of ints that nobody writes -/
def xg_A (C n : String) (L : Nat) (xs : Nat → Int32) (A : Nat → Prop) (U : State) (H : Heap) : Prop := ∃ r : Nat, va_Z C n "[I" (.ref r) A U H ∧ va_X r L xs U H ∧ r < H.size ∧ ¬ A r
theorem xg_A.warm {C n : String} {L : Nat} {xs : Nat → Int32} {A B : Nat → Prop} {s U : State} {H : Heap} (h : xg_A C n L xs A s H) (hvm : s.vm.Alike U.vm) (hAB : ∀ q, B q → A q) : xg_A C n L xs B U H := by
  obtain ⟨r, h1, h2, h3, h4⟩ := h
  exact ⟨r, (h1.moved hvm).narrow hAB, h2.moved hvm, h3, fun z => h4 (hAB r z)⟩
theorem xg_A.kept {C n : String} {L : Nat} {xs : Nat → Int32} {A : Nat → Prop} {s : State} {H H1 : Heap} (h : xg_A C n L xs A s H) (hz : H.size ≤ H1.size) (hq : ∀ a : Nat, a < H.size → ¬ A a → H1[a]? = H[a]?) : xg_A C n L xs A s H1 := by
  obtain ⟨r, h1, h2, h3, h4⟩ := h
  exact ⟨r, h1.kept hq, h2.kept (hq r h3 h4), Nat.lt_of_lt_of_le h3 hz, h4⟩
/-- what holds beside a method's own world: the words, the statics, the strings -/
def Gd (A : Nat → Prop) (U : State) (H : Heap) : Prop := (∀ w ∈ xg_B, w.before #[] U = true) ∧ (xg_A "ContextUnfolder$Output" "COUNTS_AT_FIRST" 9 xs_counts A U H ∧ xg_A "ContextUnfolder$Code" "SIMPLE_LENGTHS" 14 xs_simple A U H ∧ xg_A "ContextUnfolder$BlockReader" "LEAST_INSERTED" 4 xs_ins A U H ∧ xg_A "ContextUnfolder$BlockReader" "LEAST_COPIED" 4 xs_cop A U H) ∧ (vx_Zq Bundle.tN "UNASSIGNED_STACK" Bundle.steD A U H ∧ vx_Zq Bundle.tN "SUPPRESSED_SENTINEL" Bundle.listD A U H) ∧ ∀ q ∈ xg_S, ∃ sa : Nat, vk_R q.1 q.2.1 q.2.2 sa U
theorem Gd.warm {A B : Nat → Prop} {s U : State} {H : Heap} (h : Gd A s H) (hW : s.WarmedH U.vm) (hAB : ∀ q, B q → A q) : Gd B U H := by
  obtain ⟨h1, ⟨a1, a2, a3, a4⟩, ⟨b1, b2⟩, h4⟩ := h
  have hvm := hW.alike
  refine ⟨xg_ts hW h1, ⟨a1.warm hvm hAB, a2.warm hvm hAB, a3.warm hvm hAB, a4.warm hvm hAB⟩, ⟨(b1.moved hvm).narrow hAB, (b2.moved hvm).narrow hAB⟩, fun q hq => ?_⟩
  obtain ⟨sa, h9⟩ := h4 q hq
  exact ⟨sa, vk_R.warm hW h9⟩
theorem Gd.kept {A : Nat → Prop} {s : State} {H H1 : Heap} (h : Gd A s H) (hz : H.size ≤ H1.size) (hq : ∀ a : Nat, a < H.size → ¬ A a → H1[a]? = H[a]?) : Gd A s H1 := by
  obtain ⟨h1, ⟨a1, a2, a3, a4⟩, ⟨b1, b2⟩, h4⟩ := h
  exact ⟨h1, ⟨a1.kept hz hq, a2.kept hz hq, a3.kept hz hq, a4.kept hz hq⟩, ⟨b1.kept hq, b2.kept hq⟩, h4⟩
/-- the array classes: int, boolean, Code, long -/
abbrev xTy (K : Nat → ClassId) : List (ClassId × FieldType) := [(K 0, .int), (K 1, .boolean), (K 2, .object RX1), (K 3, .long)]
/-- an outcome: thrown (the class, the world), or returned (the answer, the world) -/
abbrev xO : Type := (String × va_W) ⊕ (Option Value × va_W)
def xcl (o : xO) : Nat := match o with | .inl _ => 1 | .inr _ => 0
def xsl (o : xO) : Nat := match o with | .inl _ => 6 | .inr _ => 0
abbrev xR (fr lo : Nat) (o : xO) : Room := { frames := fr, cells := xcl o, slots := xsl o, locals := lo }
/-- how a contract begins -/
def xPre (D : va_G) (K : Nat → ClassId) (av : List Value) (sz : Nat) (W0 : va_W) : Array Value → State → Prop :=
  va_Pc av (fun U => U.heap.size = sz ∧ va_P D vwCl W0 U.heap ∧ va_K D vwCl (xTy K) U ∧ va_D (fun _ => True) W0 ∧ Gd (va_A W0 sz) U U.heap)
theorem xPre_blind {D : va_G} {K : Nat → ClassId} {av : List Value} {sz : Nat} {W0 : va_W} : FrameBlind (xPre D K av sz W0) := by
  intro a U g mk q
  obtain ⟨q0, q1, qP, qK, qD, qG⟩ := q
  exact ⟨q0, q1, qP, va_K.moved (u := U) (U := U.calling g mk a) (Vm.Alike.refl U.vm) qK, qD, qG.warm (U := U.calling g mk a) (State.WarmedH.refl U) (fun _ h => h)⟩
/-- how it ends: returned -/
def xQr (D : va_G) (K : Nat → ClassId) (A : Nat → Prop) (v : Option Value) (W1 : va_W) : Array Value → State → Outcome → State → Prop := fun _ st oc t =>
  (oc = .returned v ∧ va_P D vwCl W1 t.heap ∧ va_K D vwCl (xTy K) t ∧ va_D A W1) ∧ va_F A st t
/-- how it ends: thrown -/
def xQx (D : va_G) (K : Nat → ClassId) (A : Nat → Prop) (E : String) (W1 : va_W) : String → State → State → Prop := fun E' st t =>
  E' = E ∧ va_P D vwCl W1 t.heap ∧ va_K D vwCl (xTy K) t ∧ va_D A W1 ∧ va_F A st t
def xQ (below : List Frame) (args : Array Value) (s : State) (D : va_G) (K : Nat → ClassId) (A : Nat → Prop) (o : xO) : State → Prop := match o with
  | .inr (v, W1) => MQ below (xQr D K A v W1) args s 0 0 A
  | .inl (E, W1) => vx_MQ below (fun _ _ _ _ => False) (xQx D K A E W1) args s 1 6 A
/-- the contract of a method whose outcome at this start is o -/
def xMet (l : Launch) (y : MethodName) (cc : ByteArray) (n : Nat) (ret : Option FieldType) (fr lo : Nat) (D : va_G) (K : Nat → ClassId) (av : List Value) (sz : Nat) (W0 : va_W) (o : xO) : Prop := match o with
  | .inr (v, W1) => Met l y [.code y cc n ret] (xR fr lo (.inr (v, W1))) (xPre D K av sz W0) (xQr D K (va_A W0 sz) v W1) 0 0 (va_A W0 sz)
  | .inl (E, W1) => vx_Met l y [.code y cc n ret] (xR fr lo (.inl (E, W1))) (xPre D K av sz W0) (fun _ _ _ _ => False) (xQx D K (va_A W0 sz) E W1) 1 6 (va_A W0 sz)
/-- what a body has at hand -/
def xC (p : Program) (s : State) (m : MethodId) (args : Array Value) (meth : Method) (c : Code) (cc : ByteArray) (n : Nat) (ret : Option FieldType) (y : MethodName) (D : va_G) (K : Nat → ClassId) (A : Nat → Prop) : Prop :=
  p.tables.exec = Jvm.exec ∧ c.code = cc ∧ meth.sig.returnType = ret ∧ c.maxLocals = n ∧ s.vm.findClass y.cls = some m.cls ∧ va_K D vwCl (xTy K) s ∧ (∀ w ∈ xg_B, w.before args s = true) ∧ (∀ q, s.heap.size ≤ q → A q) ∧ Gd A s s.heap ∧ meth.locks = false ∧ (∀ x ∈ c.exceptionTable.toList, False) ∧ meth.name = y.name
theorem xm_of {l : Launch} {y : MethodName} {cc : ByteArray} {n : Nat} {ret : Option FieldType} {fr lo : Nat} {D : va_G} {K : Nat → ClassId} {av : List Value} {sz : Nat} {W0 : va_W} (o : xO) (hy : plainName y.cls = true) (hn : (lg_sl av).length ≤ n)
    (body : ∀ (p : Program) (e : Env) (s : State) (m : MethodId) (args : Array Value) (below : List Frame) (meth : Method) (c : Code) (A : Nat → Prop), xC p s m args meth c cc n ret y D K A → va_P D vwCl W0 s.heap → va_D A W0 → ∀ ls : Array Slot, lv_has ls n (lv_args 0 av) →
      W p l e (xR fr lo o) s m args below meth c s.heap [] 0 0 (xQ below args s D K A o) (F0 m 0 ls [])) : xMet l y cc n ret fr lo D K av sz W0 o := by
  have main : ∀ (p : Program) (e : Env) (s : State) (m : MethodId) (args : Array Value) (below : List Frame) (meth : Method) (c : Code) (s₁ : State), BodyLoose p l y (headSpec [.code y cc n ret] (xR fr lo o)) cc n ret e s m args below meth c s₁ → c.maxLocals = n → (∀ x ∈ c.exceptionTable.toList, False) → xPre D K av sz W0 args s →
      W p l e (xR fr lo o) s m args below meth c s.heap [] 0 0 (xQ below args s D K (va_A W0 sz) o) (entryFrame m args n) := by
    intro p e s m args below meth c s₁ B hml hte hv
    obtain ⟨rfl, hsz, hP, hK, hD0, hG⟩ := hv
    subst hsz
    have hD := hD0.self (sz := s.heap.size)
    have hl := lv_entry av (n := n) hn
    rw [lg_entry_eq]
    exact body p e s m _ below meth c (va_A W0 s.heap.size) ⟨B.exec, B.bytes, B.returns, hml, findClass_of_methodNamed B.named, hK, xg_ts (State.WarmedH.refl s) hG.1, fun q h => Or.inr h, hG, B.notSynchronized, hte, (name_of_methodNamed B.named B.method).1⟩ hP hD _ hl
  have emp : ∀ {p : Program} {e : Env} {s : State} {m : MethodId} {args : Array Value} {below : List Frame} {meth : Method} {c : Code} {s₁ : State}, BodyLoose p l y (headSpec [.code y cc n ret] (xR fr lo o)) cc n ret e s m args below meth c s₁ → ∀ x ∈ c.exceptionTable.toList, False := by
    intro p e s m args below meth c s₁ B x hx
    have h1 := B.noHandlers (atoms_spec (ws := [.code y cc n ret]) B.pre _ List.mem_cons_self)
    have h2 : c.exceptionTable = #[] := Array.isEmpty_iff.mp h1
    rw [h2] at hx
    cases hx
  rcases o with ⟨E, W1⟩ | ⟨v, W1⟩
  · exact vx_ofW (cc := cc) (maxL := n) (ret := ret) hy rfl (fun p e s m args below meth c s₁ B hml hte hv => main p e s m args below meth c s₁ B hml hte hv)
  · exact Met.ofW (cc := cc) (maxL := n) (ret := ret) hy rfl (fun p e s m args below meth c s₁ B hml hv => main p e s m args below meth c s₁ B hml (emp B) hv)
section XE
variable {p : Program} {l : Launch} {e : Env} {R : Room} {s : State} {m : MethodId} {args : Array Value} {below : List Frame} {meth : Method} {c : Code} {H : Heap} {locs : List Loc} {cells slots : Nat} {Q : State → Prop}
variable {cc : ByteArray} {n pc : Nat} {ret : Option FieldType} {y : MethodName} {D : va_G} {K : Nat → ClassId} {A : Nat → Prop} {ls : Array Slot} {W1 : va_W} {rest : List Value}
theorem xe_end (C : xC p s m args meth c cc n ret y D K A) (hP : va_P D vwCl W1 H) (hD : va_D A W1) (hS : va_S A s.heap H locs) (v : Option Value) : ∀ t : State, t.heap = H → s.WarmedH t.vm → xQr D K A v W1 args s (.returned v) t := by
  intro t ht hW
  refine ⟨⟨rfl, by rw [ht]; exact hP, va_K.moved hW.alike C.2.2.2.2.2.1, hD⟩, ?_⟩
  exact hS.F ht
theorem xe_v (C : xC p s m args meth c cc n none y D K A) (hP : va_P D vwCl W1 H) (hD : va_D A W1) (hS : va_S A s.heap H locs) (d : decode cc pc = .ok (.return_, 1)) : W p l e R s m args below meth c H locs 0 0 (xQ below args s D K A (.inr (none, W1))) (F0 m pc ls []) := by
  have hlocks : meth.locks = false := C.2.2.2.2.2.2.2.2.2.1
  exact W.vret C.1 C.2.1 C.2.2.1 (xe_end C hP hD hS none) hS.2.2 d
theorem xe_i {r : Int32} (C : xC p s m args meth c cc n (some .int) y D K A) (hP : va_P D vwCl W1 H) (hD : va_D A W1) (hS : va_S A s.heap H locs) (d : decode cc pc = .ok (.ireturn, 1)) : W p l e R s m args below meth c H locs 0 0 (xQ below args s D K A (.inr (some (.int r), W1))) (F0 m pc ls [.int r]) := by
  have hlocks : meth.locks = false := C.2.2.2.2.2.2.2.2.2.1
  exact W.iret C.1 C.2.1 C.2.2.1 (xe_end C hP hD hS (some (.int r))) hS.2.2 d
theorem xe_z {r : Int32} (C : xC p s m args meth c cc n (some .boolean) y D K A) (hn : narrow .boolean (.int r) = .int r) (hP : va_P D vwCl W1 H) (hD : va_D A W1) (hS : va_S A s.heap H locs) (d : decode cc pc = .ok (.ireturn, 1)) : W p l e R s m args below meth c H locs 0 0 (xQ below args s D K A (.inr (some (.int r), W1))) (F0 m pc ls [.int r]) := by
  have hlocks : meth.locks = false := C.2.2.2.2.2.2.2.2.2.1
  exact W.zret C.1 C.2.1 C.2.2.1 hn (xe_end C hP hD hS (some (.int r))) hS.2.2 d
/-- throw new cls("text") -/
theorem xe_throw (C : xC p s m args meth c cc n ret y D K A) (hl : l.stackTraces = false) {cls text : String} {names : List String} {ik is ic : Nat} (hcls : Bundle.fit cls = true) (hnames : ∀ n ∈ names, Bundle.fit n = true)
    (hk : Cond.classLink y.cls ik cls ∈ xg_B) (hini : Cond.initialized cls ∈ xg_B) (hstr : (y.cls, is, text) ∈ xg_S) (hat : ∀ w ∈ vx_atS y.cls ic cls names, w ∈ xg_B) (hgood : ∀ w ∈ Cond.classLink y.cls ik cls :: Cond.initialized cls :: vx_atS y.cls ic cls names, vx_ot w = true)
    {lv : List (Nat × Value)} (hsz : lv_has ls n lv) (hP : va_P D vwCl W1 H) (hD : va_D A W1) (hS : va_S A s.heap H locs)
    (d0 : decode cc pc = .ok (.new ik, 3)) (d3 : decode cc (pc + 3) = .ok (.dup, 1)) (d4 : decode cc (pc + 4) = .ok (.ldc is, 2)) (d6 : decode cc (pc + 6) = .ok (.invokespecial ic, 3)) (d9 : decode cc (pc + 9) = .ok (.athrow, 1))
    {fr lo : Nat} (hRf : names.length + 3 < fr) (hRl : (rest.map fun v => v.category).sum + (13 * (names.length + 1) + 43) ≤ lo) :
    W p l e (xR fr lo (.inl (cls, W1))) s m args below meth c H locs 0 0 (xQ below args s D K A (.inl (cls, W1))) (F0 m pc ls rest) := by
  obtain ⟨hx, hb, hr, hml, hown, hK, hts, hA, hG, hlk, hte, -⟩ := C
  obtain ⟨sa, hsa⟩ := hG.2.2.2 _ hstr
  refine vx_throwS (text := text) (sa := sa) hx hb hl hown hcls hnames (hts _ hk) (hts _ hini) hsa (fun w hw => hts _ (hat w hw)) hgood hG.2.2.1.1 hG.2.2.1.2 hS (by rw [hml]; exact hsz.1) d0 d3 d4 d6 d9 (fun x h => absurd (hte x h) (fun z => z)) hRf hRl (by show 0 + 1 ≤ 1; decide) (by show 0 + 6 ≤ 6; decide) hlk ?_ hS.2.2 (by decide) (by decide)
  intro t hal hz hq
  have hP1 : va_P D vwCl W1 t.heap := fun k q h => (hP k q h).kept (hq _ (hP k q h).lt)
  exact ⟨rfl, hP1, va_K.moved hal hK, hD, Nat.le_trans hS.1 hz, fun q h1 h2 => by rw [hq q (Nat.lt_of_lt_of_le h1 hS.1)]; exact hS.2.1 q h1 h2⟩
end XE
section XCALL
variable {p : Program} {l : Launch} {e : Env} {R : Room} {s : State} {m : MethodId} {args : Array Value} {below : List Frame} {meth : Method} {c : Code} {H : Heap} {locs : List Loc} {cells slots : Nat} {Q : State → Prop}
variable {cc : ByteArray} {n pc : Nat} {ret : Option FieldType} {y : MethodName} {D : va_G} {K : Nat → ClassId} {A : Nat → Prop} {ls : Array Slot} {rest st0 : List Value} {a : Array Value}
variable {ws ws' Wc Wn : va_W}
theorem xc_fm {w w' : va_W} {is : List Nat} (h : is.map (fun i => w[i]?) = w'.map some) : is.filterMap (fun i => w[i]?) = w' := by
  have h1 : is.filterMap (fun i => w[i]?) = (is.map (fun i => w[i]?)).filterMap id := by rw [List.filterMap_map]; rfl
  rw [h1, h, List.filterMap_map]
  have h2 : (id ∘ some : (Nat × va_E) → Option (Nat × va_E)) = some := rfl
  rw [h2, List.filterMap_some]
theorem xc_in {is : List Nat} {w w' : va_W} (h : is.map (fun i => w[i]?) = w'.map some) {j : Nat} {q : Nat × va_E} (hq : w'[j]? = some q) : ∃ i, is[j]? = some i ∧ w[i]? = some q := by
  have h1 : (is.map (fun i => w[i]?))[j]? = some (some q) := by rw [h, List.getElem?_map, hq]; rfl
  rw [List.getElem?_map] at h1
  cases hi : is[j]? with
  | none => rw [hi] at h1; cases h1
  | some i =>
    rw [hi] at h1
    exact ⟨i, rfl, Option.some.inj h1⟩
/-- other cells from the place o on -/
def xrep (w : va_W) (o : Nat) (es : va_W) : va_W := w.take o ++ (es ++ w.drop (o + es.length))
theorem xrep_len {w : va_W} {o : Nat} {es : va_W} (h : o + es.length ≤ w.length) : (xrep w o es).length = w.length := by
  simp only [xrep, List.length_append, List.length_take, List.length_drop]
  omega
theorem xrep_at {w : va_W} {o : Nat} {es : va_W} (h : o + es.length ≤ w.length) {k : Nat} {q : Nat × va_E} (hq : (xrep w o es)[k]? = some q) : (∃ j : Nat, j < es.length ∧ k = o + j ∧ es[j]? = some q) ∨ ((k < o ∨ o + es.length ≤ k) ∧ w[k]? = some q) := by
  have ht : (w.take o).length = o := by rw [List.length_take]; omega
  unfold xrep at hq
  by_cases h1 : k < o
  · rw [List.getElem?_append_left (by omega), List.getElem?_take] at hq
    rw [if_pos h1] at hq
    exact Or.inr ⟨Or.inl h1, hq⟩
  · rw [List.getElem?_append_right (by omega), ht] at hq
    by_cases h2 : k - o < es.length
    · rw [List.getElem?_append_left h2] at hq
      exact Or.inl ⟨k - o, h2, by omega, hq⟩
    · rw [List.getElem?_append_right (by omega), List.getElem?_drop] at hq
      have e1 : o + es.length + (k - o - es.length) = k := by omega
      rw [e1] at hq
      exact Or.inr ⟨Or.inr (by omega), hq⟩
def xput (w : va_W) : List (Nat × va_W) → va_W
  | [] => w
  | q :: t => xrep (xput w t) q.1 q.2
def xidx : List (Nat × va_W) → List Nat
  | [] => []
  | q :: t => List.range' q.1 q.2.length ++ xidx t
def xcat : List (Nat × va_W) → va_W
  | [] => []
  | q :: t => match t with
    | [] => q.2
    | _ :: _ => q.2 ++ xcat t
theorem xcat_cons (q : Nat × va_W) (t : List (Nat × va_W)) : xcat (q :: t) = q.2 ++ xcat t := by
  cases t with
  | nil => show q.2 = q.2 ++ []; rw [List.append_nil]
  | cons a b => rfl
theorem xput_len {w : va_W} : ∀ (sg : List (Nat × va_W)), (∀ q ∈ sg, q.1 + q.2.length ≤ w.length) → (xput w sg).length = w.length := by
  intro sg
  induction sg with
  | nil => intro _; rfl
  | cons q t ih =>
    intro h
    have h1 := ih (fun z hz => h z (List.mem_cons_of_mem _ hz))
    show (xrep (xput w t) q.1 q.2).length = _
    rw [xrep_len (by rw [h1]; exact h q List.mem_cons_self), h1]
theorem xput_at {w : va_W} : ∀ (sg : List (Nat × va_W)), (∀ q ∈ sg, q.1 + q.2.length ≤ w.length) → ∀ (k : Nat) (q : Nat × va_E), (xput w sg)[k]? = some q → (∃ j : Nat, (xidx sg)[j]? = some k ∧ (xcat sg)[j]? = some q) ∨ (k ∉ xidx sg ∧ w[k]? = some q) := by
  intro sg
  induction sg with
  | nil => intro _ k q h; exact Or.inr ⟨List.not_mem_nil, h⟩
  | cons z t ih =>
    intro h k q hq
    have hl := xput_len t (fun z hz => h z (List.mem_cons_of_mem _ hz))
    rw [xcat_cons]
    show (∃ j : Nat, (List.range' z.1 z.2.length ++ xidx t)[j]? = some k ∧ _) ∨ (k ∉ List.range' z.1 z.2.length ++ xidx t ∧ _)
    rcases xrep_at (by rw [hl]; exact h z List.mem_cons_self) hq with ⟨j, h1, h2, h3⟩ | ⟨h1, h2⟩
    · refine Or.inl ⟨j, ?_, ?_⟩
      · rw [List.getElem?_append_left (by rw [List.length_range']; exact h1), List.getElem?_range' h1, h2]
        simp
      · rw [List.getElem?_append_left h1]; exact h3
    · rcases ih (fun z hz => h z (List.mem_cons_of_mem _ hz)) k q h2 with ⟨j, h3, h4⟩ | ⟨h3, h4⟩
      · refine Or.inl ⟨j + z.2.length, ?_, ?_⟩
        · rw [List.getElem?_append_right (by rw [List.length_range']; omega), List.length_range', Nat.add_sub_cancel]; exact h3
        · rw [List.getElem?_append_right (by omega), Nat.add_sub_cancel]; exact h4
      · refine Or.inr ⟨fun hm => ?_, h4⟩
        rcases List.mem_append.mp hm with h5 | h5
        · rw [List.mem_range'] at h5
          obtain ⟨i, h6, h7⟩ := h5
          omega
        · exact h3 h5
/-- the world behind a call: the callee's cells as they came back, the rest as it was -/
theorem xc_join {H1 : Heap} (hP : va_P D vwCl ws H) (hD : va_D A ws) (hA : ∀ q, s.heap.size ≤ q → A q) (hS : va_S A s.heap H locs) (isC : List Nat) (hC : isC.map (fun i => ws[i]?) = Wc.map some) (sg : List (Nat × va_W)) (hsI : xidx sg = isC) (hsC : xcat sg = Wn) (hsW : xput ws sg = ws') (hsB : ∀ q ∈ sg, q.1 + q.2.length ≤ ws.length)
    (hP1 : va_P D vwCl Wn H1) (hD1 : va_D (va_A Wc H.size) Wn) (hk : ∀ q : Nat, q < H.size → ¬ va_A Wc H.size q → H1[q]? = H[q]?) :
    va_P D vwCl ws' H1 ∧ va_D A ws' := by
  have hF := va_free hD hS hA isC hC
  have apart : ∀ (k : Nat) (q : Nat × va_E), k ∉ isC → ws[k]? = some q → q.1 < H.size ∧ ¬ va_A Wc H.size q.1 := by
    intro k q hk1 hq
    have hl := (hP k q hq).lt
    refine ⟨hl, fun h => ?_⟩
    rcases h with ⟨j, e9, h⟩ | h
    · obtain ⟨i, h1, h2⟩ := xc_in hC h
      have := hD.1 k i q (q.1, e9) hq h2 rfl
      subst this
      exact hk1 (List.mem_of_getElem? h1)
    · exact absurd hl (Nat.not_lt.mpr h)
  have at9 : ∀ {k : Nat} {q : Nat × va_E}, ws'[k]? = some q → (∃ j : Nat, isC[j]? = some k ∧ Wn[j]? = some q) ∨ (k ∉ isC ∧ ws[k]? = some q) := fun h => by
    subst hsI; subst hsC; subst hsW
    exact xput_at sg hsB _ _ h
  refine ⟨fun k q hq => ?_, fun i j p q hi hj hpq => ?_, fun k q hq => ?_⟩
  · rcases at9 hq with ⟨j, -, h2⟩ | ⟨h1, h2⟩
    · exact hP1 j q h2
    · obtain ⟨g1, g2⟩ := apart k q h1 h2
      exact (hP k q h2).kept (hk q.1 g1 g2)
  · rcases at9 hi with ⟨i', a1, a2⟩ | ⟨a1, a2⟩
    · rcases at9 hj with ⟨j', b1, b2⟩ | ⟨b1, b2⟩
      · have h9 := hD1.1 i' j' p q a2 b2 hpq
        subst h9
        exact Option.some.inj (a1.symm.trans b1)
      · exact absurd (hpq ▸ hD1.2 i' p a2) (apart j q b1 b2).2
    · rcases at9 hj with ⟨j', b1, b2⟩ | ⟨b1, b2⟩
      · exact absurd (hpq ▸ hD1.2 j' q b2) (apart i p a1 a2).2
      · exact hD.1 i j p q a2 b2 hpq
  · rcases at9 hq with ⟨j, -, h2⟩ | ⟨h1, h2⟩
    · exact hF _ (hD1.2 j q h2)
    · exact hD.2 k q h2
theorem xc_stay {H1 : Heap} {L : List Loc} (hD : va_D A ws) (hA : ∀ q, s.heap.size ≤ q → A q) (hS : va_S A s.heap H locs) (isC : List Nat) (hC : isC.map (fun i => ws[i]?) = Wc.map some) (hL : ∀ q ∈ L, va_A Wc H.size q.base) (hz : H.size ≤ H1.size) (hk : ∀ q : Nat, q < H.size → ¬ va_A Wc H.size q → H1[q]? = H[q]?) : va_S A s.heap H1 (locs ++ L) := by
  have hF := va_free hD hS hA isC hC
  refine ⟨Nat.le_trans hS.1 hz, fun q h1 h2 => ?_, fun q hq => ?_⟩
  · rw [hk q (Nat.lt_of_lt_of_le h1 hS.1) (fun z => h2 (hF q z))]
    exact hS.2.1 q h1 h2
  · rcases List.mem_append.mp hq with h | h
    · exact hS.2.2 q h
    · exact hF _ (hL q h)
theorem xc_ret {v : Option Value} (hr : va_Run p l e R s m args below meth c H locs cells slots 0 0 (F0 m pc ls st0) rest (xQr D K (va_A Wc H.size) v Wn a) (va_A Wc H.size)) (hA : ∀ q, s.heap.size ≤ q → A q)
    (hP : va_P D vwCl ws H) (hD : va_D A ws) (hS : va_S A s.heap H locs) (isC : List Nat) (hC : isC.map (fun i => ws[i]?) = Wc.map some) (sg : List (Nat × va_W)) (hsI : xidx sg = isC) (hsC : xcat sg = Wn) (hsW : xput ws sg = ws') (hsB : ∀ q ∈ sg, q.1 + q.2.length ≤ ws.length)
    (kk : ∀ (H1 : Heap) (locs1 : List Loc), va_P D vwCl ws' H1 → va_D A ws' → va_S A s.heap H1 locs1 → W p l e R s m args below meth c H1 locs1 cells slots Q (F0 m (pc + 3) ls (v.toList ++ rest))) : W p l e R s m args below meth c H locs cells slots Q (F0 m pc ls st0) := by
  intro T hT X
  obtain ⟨v', st₀, t, T', L, h0, X', hL, e1, e2, ⟨⟨hv, hP1, hK1, hD1⟩, hz, hk⟩, st⟩ := hr T hT X
  cases hv
  rw [h0] at hz hk
  rw [← e1] at hP1 hz hk
  obtain ⟨j1, j2⟩ := xc_join hP hD hA hS isC hC sg hsI hsC hsW hsB hP1 hD1 hk
  obtain ⟨t2, a1, b1⟩ := kk T'.heap (locs ++ L) j1 j2 (xc_stay hD hA hS isC hC hL hz hk) T' rfl X'
  exact ⟨t2, st t2 a1, b1⟩
theorem xc_thr {E : String} (hr : vx_Run p l e R s m args below meth c H locs 0 0 1 6 (F0 m pc ls st0) rest (fun _ _ _ => False) (xQx D K (va_A Wc H.size) E Wn) (va_A Wc H.size)) (C : xC p s m args meth c cc n ret y D K A)
    (hP : va_P D vwCl ws H) (hD : va_D A ws) (hS : va_S A s.heap H locs) (isC : List Nat) (hC : isC.map (fun i => ws[i]?) = Wc.map some) (sg : List (Nat × va_W)) (hsI : xidx sg = isC) (hsC : xcat sg = Wn) (hsW : xput ws sg = ws') (hsB : ∀ q ∈ sg, q.1 + q.2.length ≤ ws.length) :
    W p l e R s m args below meth c H locs 0 0 (xQ below args s D K A (.inl (E, ws'))) (F0 m pc ls st0) := by
  obtain ⟨hx, hb, hrt, hml, hown, hK, hts, hA, hG, hlk, hte, -⟩ := C
  intro T hT X
  rcases hr T hT X with ⟨v, st₀, t, T', L, h0, X', hL, e1, e2, hq, st⟩ | ⟨q, st₀, t, T', L, E', ce, h0, X', hL, e1, e2, ⟨hE, hP1, hK1, hD1, hz, hk⟩, hce, hcv, hcl, st⟩
  · exact hq.elim
  · subst hE
    rw [h0] at hz hk
    rw [← e1] at hP1 hz hk hce
    obtain ⟨j1, j2⟩ := xc_join hP hD hA hS isC hC sg hsI hsC hsW hsB hP1 hD1 hk
    have j3 := xc_stay hD hA hS isC hC hL hz hk
    obtain ⟨t2, a1, b1⟩ := vx_out (Qc := fun _ _ _ _ => False) (XC := xQx D K A E' ws') (args := args) (mc := 1) (ms := 6) (free := A) (ls := ls) (rest := rest) (pc := pc) (fun x h => absurd (hte x h) (fun z => z)) hlk hce hcv hcl
      (fun t ht hal => ⟨rfl, by rw [ht]; exact j1, va_K.moved hal hK, j2, j3.F ht⟩) j3.2.2 (Nat.le_refl _) (Nat.le_refl _) T' rfl X'
    exact ⟨t2, st.trans a1, b1⟩
/-- a callee's start out of the caller's world -/
theorem xc_pre (C : xC p s m args meth c cc n ret y D K A) (hP : va_P D vwCl ws H) (hD : va_D A ws) (hS : va_S A s.heap H locs) (isC : List Nat) (hn : va_nd isC = true) (hC : isC.map (fun i => ws[i]?) = Wc.map some) (av : List Value) : PreS s H (xPre D K av H.size Wc) av := by
  obtain ⟨hx, hb, hrt, hml, hown, hK, hts, hA, hG, hlk, hte, -⟩ := C
  refine ⟨xPre_blind, fun U hU hW => ⟨rfl, by rw [hU], by rw [hU]; exact hP.sub isC (xc_fm hC), va_K.moved hW.alike hK, (hD.sub isC hn hC).weaken (fun _ _ _ _ => trivial), ?_⟩⟩
  rw [hU]
  exact (hG.kept hS.1 hS.2.1).warm hW (va_free hD hS hA isC hC)
variable {yc : MethodName} {bc : ByteArray} {nc fr lo ix : Nat} {rc : Option FieldType} {As : List Value} {b : Nat} {lv : List (Nat × Value)}
theorem xc_good {own : String} {C : String} (h1 : Cond.methodLink own ix yc ∈ xg_B) (h2 : Cond.instanceMethod yc ∈ xg_B) (h3 : Cond.selects C yc yc ∈ xg_B) (h4 : Cond.initialized C ∈ xg_B) (h5 : Cond.code yc bc nc rc ∈ xg_B) (hg : (wsV own ix C yc [Cond.code yc bc nc rc]).all goodWord = true) : GoodIn xg_B (wsV own ix C yc [Cond.code yc bc nc rc]) := by
  intro w hw
  refine ⟨?_, good_of_word (List.all_eq_true.mp hg w hw)⟩
  simp only [wsV, List.cons_append, List.nil_append, List.mem_cons, List.not_mem_nil, or_false] at hw
  rcases hw with rfl | rfl | rfl | rfl | rfl
  · exact h1
  · exact h2
  · exact h3
  · exact h4
  · exact h5
theorem xc_goodS {own : String} (h1 : Cond.methodLink own ix yc ∈ xg_B) (h2 : Cond.static yc ∈ xg_B) (h4 : Cond.initialized own ∈ xg_B) (h5 : Cond.code yc bc nc rc ∈ xg_B) (hg : (wsS own ix yc [Cond.code yc bc nc rc]).all goodWord = true) : GoodIn xg_B (wsS own ix yc [Cond.code yc bc nc rc]) := by
  intro w hw
  refine ⟨?_, good_of_word (List.all_eq_true.mp hg w hw)⟩
  simp only [wsS, List.cons_append, List.nil_append, List.mem_cons, List.not_mem_nil, or_false] at hw
  rcases hw with rfl | rfl | rfl | rfl
  · exact h1
  · exact h2
  · exact h4
  · exact h5
theorem xc_goodQ {own : String} (h1 : Cond.methodLink own ix yc ∈ xg_B) (h2 : Cond.static yc ∈ xg_B) (h4 : Cond.initialized yc.cls ∈ xg_B) (h5 : Cond.code yc bc nc rc ∈ xg_B) (hg : (va_wsS own ix yc [Cond.code yc bc nc rc]).all goodWord = true) : GoodIn xg_B (va_wsS own ix yc [Cond.code yc bc nc rc]) := by
  intro w hw
  refine ⟨?_, good_of_word (List.all_eq_true.mp hg w hw)⟩
  simp only [va_wsS, List.cons_append, List.nil_append, List.mem_cons, List.not_mem_nil, or_false] at hw
  rcases hw with rfl | rfl | rfl | rfl
  · exact h1
  · exact h2
  · exact h4
  · exact h5
/-- a call by invokevirtual that returns -/
theorem xc_V {v : Option Value} (C : xC p s m args meth c cc n ret y D K A) (hM : xMet l yc bc nc rc fr lo D K (.ref b :: As) H.size Wc (.inr (v, Wn))) (hG : GoodIn xg_B (wsV y.cls ix yc.cls yc [Cond.code yc bc nc rc]))
    (hd : yc.cls ≠ "java/lang/invoke/MethodHandle" ∧ yc.cls ≠ "java/lang/invoke/VarHandle" ∧ (parseMethodDescriptor yc.desc).map (fun d => d.parameters.length) = some As.length) (hRm : fr + 1 ≤ R.frames ∧ 8 + (nc + 11) + lo ≤ R.locals) (hf : cells ≤ R.cells ∧ slots ≤ R.slots)
    (hl : lv_has ls n lv) (hst : st0 = As.reverse ++ .ref b :: rest) (hw : (rest.map fun v => v.category).sum ≤ 8) (hdg : decode cc pc = .ok (.invokevirtual ix, 3))
    (hP : va_P D vwCl ws H) (hD : va_D A ws) (hS : va_S A s.heap H locs) (q0 ci : Nat) {qc : vw_C} {fs : List Value} (hci : vwCl[ci]? = some qc) (hcn : qc.1 = yc.cls) (hq0 : ws[q0]? = some (b, .inr (ci, fs)))
    (isC : List Nat) (hnC : va_nd isC = true) (hC : isC.map (fun i => ws[i]?) = Wc.map some) (sg : List (Nat × va_W)) (hsI : xidx sg = isC) (hsC : xcat sg = Wn) (hsW : xput ws sg = ws') (hsB : ∀ q ∈ sg, q.1 + q.2.length ≤ ws.length)
    (kk : ∀ (H1 : Heap) (locs1 : List Loc), va_P D vwCl ws' H1 → va_D A ws' → va_S A s.heap H1 locs1 → W p l e R s m args below meth c H1 locs1 cells slots Q (F0 m (pc + 3) ls (v.toList ++ rest))) : W p l e R s m args below meth c H locs cells slots Q (F0 m pc ls st0) := by
  have hpre := xc_pre C hP hD hS isC hnC hC (.ref b :: As)
  have hrec := va_recv C.2.2.2.2.2.1 hP hci hq0
  rw [hcn] at hrec
  refine xc_ret (a := (Value.ref b :: As).toArray) (va_runV (As := As) (rest := rest) (b := b) ⟨C.1, C.2.1, C.2.2.2.1, C.2.2.2.2.1, C.2.2.2.2.2.2.1⟩ hM (cwV As.length C.2.2.2.2.2.2.1 hG rfl rfl rfl ⟨rfl, hd⟩ hRm) ⟨hpre.1, hrec, hpre.2⟩ rfl rfl hl.1 hst (lv_room hw) hdg hf) C.2.2.2.2.2.2.2.1 hP hD hS isC hC sg hsI hsC hsW hsB kk
/-- a call by invokevirtual that throws -/
theorem xc_Vt {E : String} (C : xC p s m args meth c cc n ret y D K A) (hM : xMet l yc bc nc rc fr lo D K (.ref b :: As) H.size Wc (.inl (E, Wn))) (hG : GoodIn xg_B (wsV y.cls ix yc.cls yc [Cond.code yc bc nc rc]))
    (hd : yc.cls ≠ "java/lang/invoke/MethodHandle" ∧ yc.cls ≠ "java/lang/invoke/VarHandle" ∧ (parseMethodDescriptor yc.desc).map (fun d => d.parameters.length) = some As.length) (hRm : fr + 1 ≤ R.frames ∧ 8 + (nc + 11) + lo ≤ R.locals) (hf : 1 ≤ R.cells ∧ 6 ≤ R.slots)
    (hl : lv_has ls n lv) (hst : st0 = As.reverse ++ .ref b :: rest) (hw : (rest.map fun v => v.category).sum ≤ 8) (hdg : decode cc pc = .ok (.invokevirtual ix, 3))
    (hP : va_P D vwCl ws H) (hD : va_D A ws) (hS : va_S A s.heap H locs) (q0 ci : Nat) {qc : vw_C} {fs : List Value} (hci : vwCl[ci]? = some qc) (hcn : qc.1 = yc.cls) (hq0 : ws[q0]? = some (b, .inr (ci, fs)))
    (isC : List Nat) (hnC : va_nd isC = true) (hC : isC.map (fun i => ws[i]?) = Wc.map some) (sg : List (Nat × va_W)) (hsI : xidx sg = isC) (hsC : xcat sg = Wn) (hsW : xput ws sg = ws') (hsB : ∀ q ∈ sg, q.1 + q.2.length ≤ ws.length) :
    W p l e R s m args below meth c H locs 0 0 (xQ below args s D K A (.inl (E, ws'))) (F0 m pc ls st0) := by
  have hpre := xc_pre C hP hD hS isC hnC hC (.ref b :: As)
  have hrec := va_recv C.2.2.2.2.2.1 hP hci hq0
  rw [hcn] at hrec
  refine xc_thr (vx_runV (As := As) (rest := rest) (b := b) ⟨C.1, C.2.1, C.2.2.2.1, C.2.2.2.2.1, C.2.2.2.2.2.2.1⟩ hM (cwV As.length C.2.2.2.2.2.2.1 hG rfl rfl rfl ⟨rfl, hd⟩ hRm) ⟨hpre.1, hrec, hpre.2⟩ rfl rfl hl.1 hst (lv_room hw) hdg (by rw [Nat.zero_add, Nat.zero_add]; exact hf)) C hP hD hS isC hC sg hsI hsC hsW hsB
/-- a call by invokestatic, of the own kind, that returns -/
theorem xc_S {v : Option Value} (C : xC p s m args meth c cc n ret y D K A) (hM : xMet l yc bc nc rc fr lo D K As H.size Wc (.inr (v, Wn))) (hG : GoodIn xg_B (wsS y.cls ix yc [Cond.code yc bc nc rc]))
    (hd : yc.cls = y.cls ∧ yc.cls ≠ "java/lang/invoke/MethodHandle" ∧ yc.cls ≠ "java/lang/invoke/VarHandle" ∧ (parseMethodDescriptor yc.desc).map (fun d => d.parameters.length) = some As.length) (hRm : fr + 1 ≤ R.frames ∧ 8 + (nc + 11) + lo ≤ R.locals) (hf : cells ≤ R.cells ∧ slots ≤ R.slots)
    (hl : lv_has ls n lv) (hst : st0 = As.reverse ++ rest) (hw : (rest.map fun v => v.category).sum ≤ 8) (hdg : decode cc pc = .ok (.invokestatic ix, 3))
    (hP : va_P D vwCl ws H) (hD : va_D A ws) (hS : va_S A s.heap H locs)
    (isC : List Nat) (hnC : va_nd isC = true) (hC : isC.map (fun i => ws[i]?) = Wc.map some) (sg : List (Nat × va_W)) (hsI : xidx sg = isC) (hsC : xcat sg = Wn) (hsW : xput ws sg = ws') (hsB : ∀ q ∈ sg, q.1 + q.2.length ≤ ws.length)
    (kk : ∀ (H1 : Heap) (locs1 : List Loc), va_P D vwCl ws' H1 → va_D A ws' → va_S A s.heap H1 locs1 → W p l e R s m args below meth c H1 locs1 cells slots Q (F0 m (pc + 3) ls (v.toList ++ rest))) : W p l e R s m args below meth c H locs cells slots Q (F0 m pc ls st0) := by
  have hpre := xc_pre C hP hD hS isC hnC hC As
  refine xc_ret (a := As.toArray) (va_runS (As := As) (rest := rest) ⟨C.1, C.2.1, C.2.2.2.1, C.2.2.2.2.1, C.2.2.2.2.2.2.1⟩ hM (cwS As.length C.2.2.2.2.2.2.1 hG rfl rfl rfl hd hRm) hpre rfl rfl hl.1 hst (lv_room hw) hdg hf) C.2.2.2.2.2.2.2.1 hP hD hS isC hC sg hsI hsC hsW hsB kk
/-- a call by invokestatic, of the own kind, that throws -/
theorem xc_St {E : String} (C : xC p s m args meth c cc n ret y D K A) (hM : xMet l yc bc nc rc fr lo D K As H.size Wc (.inl (E, Wn))) (hG : GoodIn xg_B (wsS y.cls ix yc [Cond.code yc bc nc rc]))
    (hd : yc.cls = y.cls ∧ yc.cls ≠ "java/lang/invoke/MethodHandle" ∧ yc.cls ≠ "java/lang/invoke/VarHandle" ∧ (parseMethodDescriptor yc.desc).map (fun d => d.parameters.length) = some As.length) (hRm : fr + 1 ≤ R.frames ∧ 8 + (nc + 11) + lo ≤ R.locals) (hf : 1 ≤ R.cells ∧ 6 ≤ R.slots)
    (hl : lv_has ls n lv) (hst : st0 = As.reverse ++ rest) (hw : (rest.map fun v => v.category).sum ≤ 8) (hdg : decode cc pc = .ok (.invokestatic ix, 3))
    (hP : va_P D vwCl ws H) (hD : va_D A ws) (hS : va_S A s.heap H locs)
    (isC : List Nat) (hnC : va_nd isC = true) (hC : isC.map (fun i => ws[i]?) = Wc.map some) (sg : List (Nat × va_W)) (hsI : xidx sg = isC) (hsC : xcat sg = Wn) (hsW : xput ws sg = ws') (hsB : ∀ q ∈ sg, q.1 + q.2.length ≤ ws.length) :
    W p l e R s m args below meth c H locs 0 0 (xQ below args s D K A (.inl (E, ws'))) (F0 m pc ls st0) := by
  have hpre := xc_pre C hP hD hS isC hnC hC As
  refine xc_thr (vx_runS (As := As) (rest := rest) ⟨C.1, C.2.1, C.2.2.2.1, C.2.2.2.2.1, C.2.2.2.2.2.2.1⟩ hM (cwS As.length C.2.2.2.2.2.2.1 hG rfl rfl rfl hd hRm) hpre rfl rfl hl.1 hst (lv_room hw) hdg (by rw [Nat.zero_add, Nat.zero_add]; exact hf)) C hP hD hS isC hC sg hsI hsC hsW hsB
/-- a call by invokestatic, of another kind, that returns -/
theorem xc_Q {v : Option Value} (C : xC p s m args meth c cc n ret y D K A) (hM : xMet l yc bc nc rc fr lo D K As H.size Wc (.inr (v, Wn))) (hG : GoodIn xg_B (va_wsS y.cls ix yc [Cond.code yc bc nc rc]))
    (hd : yc.cls ≠ "java/lang/invoke/MethodHandle" ∧ yc.cls ≠ "java/lang/invoke/VarHandle" ∧ (parseMethodDescriptor yc.desc).map (fun d => d.parameters.length) = some As.length) (hRm : fr + 1 ≤ R.frames ∧ 8 + (nc + 11) + lo ≤ R.locals) (hf : cells ≤ R.cells ∧ slots ≤ R.slots)
    (hl : lv_has ls n lv) (hst : st0 = As.reverse ++ rest) (hw : (rest.map fun v => v.category).sum ≤ 8) (hdg : decode cc pc = .ok (.invokestatic ix, 3))
    (hP : va_P D vwCl ws H) (hD : va_D A ws) (hS : va_S A s.heap H locs)
    (isC : List Nat) (hnC : va_nd isC = true) (hC : isC.map (fun i => ws[i]?) = Wc.map some) (sg : List (Nat × va_W)) (hsI : xidx sg = isC) (hsC : xcat sg = Wn) (hsW : xput ws sg = ws') (hsB : ∀ q ∈ sg, q.1 + q.2.length ≤ ws.length)
    (kk : ∀ (H1 : Heap) (locs1 : List Loc), va_P D vwCl ws' H1 → va_D A ws' → va_S A s.heap H1 locs1 → W p l e R s m args below meth c H1 locs1 cells slots Q (F0 m (pc + 3) ls (v.toList ++ rest))) : W p l e R s m args below meth c H locs cells slots Q (F0 m pc ls st0) := by
  have hpre := xc_pre C hP hD hS isC hnC hC As
  refine xc_ret (a := As.toArray) (va_runS (As := As) (rest := rest) ⟨C.1, C.2.1, C.2.2.2.1, C.2.2.2.2.1, C.2.2.2.2.2.2.1⟩ hM (va_cwS As.length C.2.2.2.2.2.2.1 hG rfl rfl rfl hd hRm) hpre rfl rfl hl.1 hst (lv_room hw) hdg hf) C.2.2.2.2.2.2.2.1 hP hD hS isC hC sg hsI hsC hsW hsB kk
end XCALL
end
section
/-! Small rows for the walks by program: branches, places, calls of the functions f_.. -/
theorem xi_t {α : Type} {c : Prop} [Decidable c] {a b : Option α} {r : α} (hc : c) (h : (if c then a else b) = some r) : a = some r := (if_pos hc).symm.trans h
theorem xi_f {α : Type} {c : Prop} [Decidable c] {a b : Option α} {r : α} (hc : ¬ c) (h : (if c then a else b) = some r) : b = some r := (if_neg hc).symm.trans h
theorem xi_g {α : Type} {i : Int32} {n : Nat} {a : Option α} {r : α} (h : (if i < 0 ∨ n ≤ i.toNatClampNeg then none else a) = some r) : vp_in i n ∧ a = some r := by
  by_cases hc : i < 0 ∨ n ≤ i.toNatClampNeg
  · rw [if_pos hc] at h
    cases h
  · rw [if_neg hc] at h
    exact ⟨hc, h⟩
theorem xi_n {α : Type} {y : Int32} {a : Option α} {r : α} (h : (if y = 0 then none else a) = some r) : ¬ y = 0 ∧ a = some r := by
  by_cases hc : y = 0
  · rw [if_pos hc] at h
    cases h
  · rw [if_neg hc] at h
    exact ⟨hc, h⟩
theorem xi_b {α : Type} {x : Int32} {a : Option α} {r : α} (h : (if x = 0 ∨ x = 1 then a else none) = some r) : (narrow .boolean (.int x) = .int x ∧ fits .boolean (.int x) = true) ∧ a = some r := by
  by_cases hc : x = 0 ∨ x = 1
  · rw [if_pos hc] at h
    refine ⟨?_, h⟩
    rcases hc with rfl | rfl
    · exact ⟨rfl, rfl⟩
    · exact ⟨rfl, rfl⟩
  · rw [if_neg hc] at h
    cases h
def xbnd {σ ρ τ : Type} (x : Option ((String × σ) ⊕ (ρ × σ))) (kx : String → σ → τ) (k : ρ → σ → Option τ) : Option τ := match x with
  | none => none
  | some (.inl q) => some (kx q.1 q.2)
  | some (.inr q) => k q.1 q.2
def xbnd0 {σ ρ τ : Type} (x : Option (ρ × σ)) (k : ρ → σ → Option τ) : Option τ := match x with
  | none => none
  | some q => k q.1 q.2
theorem xi_c {σ ρ τ : Type} {x : Option ((String × σ) ⊕ (ρ × σ))} {kx : String → σ → τ} {k : ρ → σ → Option τ} {r : τ} (h : xbnd x kx k = some r) : (∃ E s, x = some (.inl (E, s)) ∧ kx E s = r) ∨ ∃ v s, x = some (.inr (v, s)) ∧ k v s = some r := by
  match x, h with
  | some (.inl (E, s)), h => exact Or.inl ⟨E, s, rfl, Option.some.inj h⟩
  | some (.inr (v, s)), h => exact Or.inr ⟨v, s, rfl, h⟩
theorem xi_d {σ ρ τ : Type} {x : Option (ρ × σ)} {k : ρ → σ → Option τ} {r : τ} (h : xbnd0 x k = some r) : ∃ v s, x = some (v, s) ∧ k v s = some r := by
  match x, h with
  | some (v, s), h => exact ⟨v, s, rfl, h⟩
/-- how often a loop may turn -/
def xF : Nat := 4096
theorem xi_sw3 {x : Int32} (h0 : ¬ x = (0 : Int32)) (h1 : ¬ x = (1 : Int32)) (h2 : ¬ x = (2 : Int32)) : x.toInt < 0 ∨ 2 < x.toInt := by
  have e0 : x.toInt ≠ 0 := fun e => h0 (Int32.toInt_inj.mp (by rw [e]; rfl))
  have e1 : x.toInt ≠ 1 := fun e => h1 (Int32.toInt_inj.mp (by rw [e]; rfl))
  have e2 : x.toInt ≠ 2 := fun e => h2 (Int32.toInt_inj.mp (by rw [e]; rfl))
  omega
theorem xf_IllegalArgumentException : Bundle.fit "java/lang/IllegalArgumentException" = true := by decide +kernel
theorem xf_IllegalStateException : Bundle.fit "java/lang/IllegalStateException" = true := by decide +kernel
theorem xf_IndexOutOfBoundsException : Bundle.fit "java/lang/IndexOutOfBoundsException" = true := by decide +kernel
theorem xf_names : ∀ n ∈ (["java/lang/RuntimeException", "java/lang/Exception"] : List String), Bundle.fit n = true := by decide +kernel
theorem xz0 : narrow .boolean (.int (0 : Int32)) = .int (0 : Int32) := rfl
theorem xz1 : narrow .boolean (.int (1 : Int32)) = .int (1 : Int32) := rfl

abbrev S4 : Type := (Nat → Int32) × Int32 × Int32
abbrev w4 (a : Nat → Nat) (K : Nat → ClassId) (S : S4) : va_W := [(a 0, .inr (4, [.ref (a 1), .int S.2.1, .int S.2.2])), (a 1, .inl (K 1, 2000, .inl S.1))]
abbrev S3 : Type := (Nat → Int32) × (Nat → Int32) × Int32
abbrev w3 (a : Nat → Nat) (K : Nat → ClassId) (S : S3) : va_W := [(a 0, .inr (3, [.ref (a 1), .ref (a 2), .int S.2.2])), (a 1, .inl (K 0, 400, .inl S.1)), (a 2, .inl (K 0, 9, .inl S.2.1))]
abbrev S1 : Type := (Nat → Int32) × (Nat → Int32) × (Nat → Int32)
abbrev w1 (a : Nat → Nat) (K : Nat → ClassId) (S : S1) : va_W := [(a 0, .inr (1, [.ref (a 1), .ref (a 2), .ref (a 3)])), (a 1, .inl (K 0, 32, .inl S.1)), (a 2, .inl (K 0, 32, .inl S.2.1)), (a 3, .inl (K 0, 8, .inl S.2.2))]
abbrev S2 : Type := S1 × S1 × S1 × S1 × S1 × (Nat → Int32) × (Nat → Int32) × (Nat → Int32) × Int32 × Int32 × Int32 × Int32
abbrev w2 (a : Nat → Nat) (K : Nat → ClassId) (S : S2) : va_W := [(a 0, .inr (2, [.ref (a 1), .ref (a 5), .ref (a 22), .ref (a 23), .ref (a 24), .int S.2.2.2.2.2.2.2.2.1, .int S.2.2.2.2.2.2.2.2.2.1, .int S.2.2.2.2.2.2.2.2.2.2.1, .int S.2.2.2.2.2.2.2.2.2.2.2])), (a 1, .inr (1, [.ref (a 2), .ref (a 3), .ref (a 4)])), (a 2, .inl (K 0, 32, .inl S.1.1)), (a 3, .inl (K 0, 32, .inl S.1.2.1)), (a 4, .inl (K 0, 8, .inl S.1.2.2)), (a 5, .inl (K 2, 4, .inr (.inr (.inr (.inr (fun j => some (a (4 * j + 6)))))))), (a 6, .inr (1, [.ref (a 7), .ref (a 8), .ref (a 9)])), (a 7, .inl (K 0, 32, .inl S.2.1.1)), (a 8, .inl (K 0, 32, .inl S.2.1.2.1)), (a 9, .inl (K 0, 8, .inl S.2.1.2.2)), (a 10, .inr (1, [.ref (a 11), .ref (a 12), .ref (a 13)])), (a 11, .inl (K 0, 32, .inl S.2.2.1.1)), (a 12, .inl (K 0, 32, .inl S.2.2.1.2.1)), (a 13, .inl (K 0, 8, .inl S.2.2.1.2.2)), (a 14, .inr (1, [.ref (a 15), .ref (a 16), .ref (a 17)])), (a 15, .inl (K 0, 32, .inl S.2.2.2.1.1)), (a 16, .inl (K 0, 32, .inl S.2.2.2.1.2.1)), (a 17, .inl (K 0, 8, .inl S.2.2.2.1.2.2)), (a 18, .inr (1, [.ref (a 19), .ref (a 20), .ref (a 21)])), (a 19, .inl (K 0, 32, .inl S.2.2.2.2.1.1)), (a 20, .inl (K 0, 32, .inl S.2.2.2.2.1.2.1)), (a 21, .inl (K 0, 8, .inl S.2.2.2.2.1.2.2)), (a 22, .inl (K 0, 3, .inl S.2.2.2.2.2.1)), (a 23, .inl (K 0, 12, .inl S.2.2.2.2.2.2.1)), (a 24, .inl (K 0, 4, .inl S.2.2.2.2.2.2.2.1))]
abbrev S0 : Type := S2 × S1 × S1 × Int32
abbrev w0 (a : Nat → Nat) (K : Nat → ClassId) (S : S0) : va_W := [(a 0, .inr (0, [.ref (a 1), .ref (a 26), .ref (a 30), .int S.2.2.2])), (a 1, .inr (2, [.ref (a 2), .ref (a 6), .ref (a 23), .ref (a 24), .ref (a 25), .int S.1.2.2.2.2.2.2.2.2.1, .int S.1.2.2.2.2.2.2.2.2.2.1, .int S.1.2.2.2.2.2.2.2.2.2.2.1, .int S.1.2.2.2.2.2.2.2.2.2.2.2])), (a 2, .inr (1, [.ref (a 3), .ref (a 4), .ref (a 5)])), (a 3, .inl (K 0, 32, .inl S.1.1.1)), (a 4, .inl (K 0, 32, .inl S.1.1.2.1)), (a 5, .inl (K 0, 8, .inl S.1.1.2.2)), (a 6, .inl (K 2, 4, .inr (.inr (.inr (.inr (fun j => some (a (4 * j + 7)))))))), (a 7, .inr (1, [.ref (a 8), .ref (a 9), .ref (a 10)])), (a 8, .inl (K 0, 32, .inl S.1.2.1.1)), (a 9, .inl (K 0, 32, .inl S.1.2.1.2.1)), (a 10, .inl (K 0, 8, .inl S.1.2.1.2.2)), (a 11, .inr (1, [.ref (a 12), .ref (a 13), .ref (a 14)])), (a 12, .inl (K 0, 32, .inl S.1.2.2.1.1)), (a 13, .inl (K 0, 32, .inl S.1.2.2.1.2.1)), (a 14, .inl (K 0, 8, .inl S.1.2.2.1.2.2)), (a 15, .inr (1, [.ref (a 16), .ref (a 17), .ref (a 18)])), (a 16, .inl (K 0, 32, .inl S.1.2.2.2.1.1)), (a 17, .inl (K 0, 32, .inl S.1.2.2.2.1.2.1)), (a 18, .inl (K 0, 8, .inl S.1.2.2.2.1.2.2)), (a 19, .inr (1, [.ref (a 20), .ref (a 21), .ref (a 22)])), (a 20, .inl (K 0, 32, .inl S.1.2.2.2.2.1.1)), (a 21, .inl (K 0, 32, .inl S.1.2.2.2.2.1.2.1)), (a 22, .inl (K 0, 8, .inl S.1.2.2.2.2.1.2.2)), (a 23, .inl (K 0, 3, .inl S.1.2.2.2.2.2.1)), (a 24, .inl (K 0, 12, .inl S.1.2.2.2.2.2.2.1)), (a 25, .inl (K 0, 4, .inl S.1.2.2.2.2.2.2.2.1)), (a 26, .inr (1, [.ref (a 27), .ref (a 28), .ref (a 29)])), (a 27, .inl (K 0, 32, .inl S.2.1.1)), (a 28, .inl (K 0, 32, .inl S.2.1.2.1)), (a 29, .inl (K 0, 8, .inl S.2.1.2.2)), (a 30, .inr (1, [.ref (a 31), .ref (a 32), .ref (a 33)])), (a 31, .inl (K 0, 32, .inl S.2.2.1.1)), (a 32, .inl (K 0, 32, .inl S.2.2.1.2.1)), (a 33, .inl (K 0, 8, .inl S.2.2.1.2.2))]
abbrev S5 : Type := S4 × S0
abbrev w5 (a ax ay : Nat → Nat) (K : Nat → ClassId) (S : S5) : va_W := [(a 0, .inr (5, [.ref (a 1), .ref (a 3), .ref (ax 0), .ref (ay 0)])), (a 1, .inr (4, [.ref (a 2), .int S.1.2.1, .int S.1.2.2])), (a 2, .inl (K 1, 2000, .inl S.1.1)), (a 3, .inr (0, [.ref (a 4), .ref (a 29), .ref (a 33), .int S.2.2.2.2])), (a 4, .inr (2, [.ref (a 5), .ref (a 9), .ref (a 26), .ref (a 27), .ref (a 28), .int S.2.1.2.2.2.2.2.2.2.2.1, .int S.2.1.2.2.2.2.2.2.2.2.2.1, .int S.2.1.2.2.2.2.2.2.2.2.2.2.1, .int S.2.1.2.2.2.2.2.2.2.2.2.2.2])), (a 5, .inr (1, [.ref (a 6), .ref (a 7), .ref (a 8)])), (a 6, .inl (K 0, 32, .inl S.2.1.1.1)), (a 7, .inl (K 0, 32, .inl S.2.1.1.2.1)), (a 8, .inl (K 0, 8, .inl S.2.1.1.2.2)), (a 9, .inl (K 2, 4, .inr (.inr (.inr (.inr (fun j => some (a (4 * j + 10)))))))), (a 10, .inr (1, [.ref (a 11), .ref (a 12), .ref (a 13)])), (a 11, .inl (K 0, 32, .inl S.2.1.2.1.1)), (a 12, .inl (K 0, 32, .inl S.2.1.2.1.2.1)), (a 13, .inl (K 0, 8, .inl S.2.1.2.1.2.2)), (a 14, .inr (1, [.ref (a 15), .ref (a 16), .ref (a 17)])), (a 15, .inl (K 0, 32, .inl S.2.1.2.2.1.1)), (a 16, .inl (K 0, 32, .inl S.2.1.2.2.1.2.1)), (a 17, .inl (K 0, 8, .inl S.2.1.2.2.1.2.2)), (a 18, .inr (1, [.ref (a 19), .ref (a 20), .ref (a 21)])), (a 19, .inl (K 0, 32, .inl S.2.1.2.2.2.1.1)), (a 20, .inl (K 0, 32, .inl S.2.1.2.2.2.1.2.1)), (a 21, .inl (K 0, 8, .inl S.2.1.2.2.2.1.2.2)), (a 22, .inr (1, [.ref (a 23), .ref (a 24), .ref (a 25)])), (a 23, .inl (K 0, 32, .inl S.2.1.2.2.2.2.1.1)), (a 24, .inl (K 0, 32, .inl S.2.1.2.2.2.2.1.2.1)), (a 25, .inl (K 0, 8, .inl S.2.1.2.2.2.2.1.2.2)), (a 26, .inl (K 0, 3, .inl S.2.1.2.2.2.2.2.1)), (a 27, .inl (K 0, 12, .inl S.2.1.2.2.2.2.2.2.1)), (a 28, .inl (K 0, 4, .inl S.2.1.2.2.2.2.2.2.2.1)), (a 29, .inr (1, [.ref (a 30), .ref (a 31), .ref (a 32)])), (a 30, .inl (K 0, 32, .inl S.2.2.1.1)), (a 31, .inl (K 0, 32, .inl S.2.2.1.2.1)), (a 32, .inl (K 0, 8, .inl S.2.2.1.2.2)), (a 33, .inr (1, [.ref (a 34), .ref (a 35), .ref (a 36)])), (a 34, .inl (K 0, 32, .inl S.2.2.2.1.1)), (a 35, .inl (K 0, 32, .inl S.2.2.2.1.2.1)), (a 36, .inl (K 0, 8, .inl S.2.2.2.1.2.2))]
abbrev S6 : Type := Int32 × Int32 × (Nat → Int32) × Int32 × Int32 × Int32 × (Nat → Int32) × Int32 × (Nat → Int32) × (Nat → Int32) × (Nat → Int32) × (Nat → Int32) × (Nat → Int32) × (Nat → Int32) × Int32 × Int32 × Int32 × Int32 × (Nat → Int32) × (Nat → Int32) × (Nat → Int32)
abbrev w6 (a : Nat → Nat) (K : Nat → ClassId) (S : S6) : va_W := [(a 0, .inr (6, [.int S.1, .int S.2.1, .ref (a 1), .int S.2.2.2.1, .int S.2.2.2.2.1, .int S.2.2.2.2.2.1, .ref (a 2), .int S.2.2.2.2.2.2.2.1, .ref (a 3), .ref (a 4), .ref (a 5), .ref (a 6), .ref (a 7), .ref (a 8), .int S.2.2.2.2.2.2.2.2.2.2.2.2.2.2.1, .int S.2.2.2.2.2.2.2.2.2.2.2.2.2.2.2.1, .int S.2.2.2.2.2.2.2.2.2.2.2.2.2.2.2.2.1, .int S.2.2.2.2.2.2.2.2.2.2.2.2.2.2.2.2.2.1, .ref (a 9), .ref (a 10), .ref (a 11)])), (a 1, .inl (K 1, 2000, .inl S.2.2.1)), (a 2, .inl (K 0, 400, .inl S.2.2.2.2.2.2.1)), (a 3, .inl (K 0, 400, .inl S.2.2.2.2.2.2.2.2.1)), (a 4, .inl (K 0, 9, .inl S.2.2.2.2.2.2.2.2.2.1)), (a 5, .inl (K 0, 9, .inl S.2.2.2.2.2.2.2.2.2.2.1)), (a 6, .inl (K 0, 224, .inl S.2.2.2.2.2.2.2.2.2.2.2.1)), (a 7, .inl (K 0, 7, .inl S.2.2.2.2.2.2.2.2.2.2.2.2.1)), (a 8, .inl (K 0, 4, .inl S.2.2.2.2.2.2.2.2.2.2.2.2.2.1)), (a 9, .inl (K 0, 3, .inl S.2.2.2.2.2.2.2.2.2.2.2.2.2.2.2.2.2.2.1)), (a 10, .inl (K 0, 12, .inl S.2.2.2.2.2.2.2.2.2.2.2.2.2.2.2.2.2.2.2.1)), (a 11, .inl (K 0, 4, .inl S.2.2.2.2.2.2.2.2.2.2.2.2.2.2.2.2.2.2.2.2))]
theorem xw_1 : (Jvm.Cond.selects "ContextUnfolder$BlockReader" ({ cls := "ContextUnfolder$BlockReader", name := "readPlain", desc := "(LContextUnfolder$Stream;LContextUnfolder$Output;)V" } : Jvm.MethodName) ({ cls := "ContextUnfolder$BlockReader", name := "readPlain", desc := "(LContextUnfolder$Stream;LContextUnfolder$Output;)V" } : Jvm.MethodName)) ∈ xg_B := xg_at 1 (by decide +kernel) (by decide +kernel)
theorem xw_2 : (Jvm.Cond.selects "ContextUnfolder$BlockReader" ({ cls := "ContextUnfolder$BlockReader", name := "readCoded", desc := "(LContextUnfolder$Stream;LContextUnfolder$Output;)V" } : Jvm.MethodName) ({ cls := "ContextUnfolder$BlockReader", name := "readCoded", desc := "(LContextUnfolder$Stream;LContextUnfolder$Output;)V" } : Jvm.MethodName)) ∈ xg_B := xg_at 2 (by decide +kernel) (by decide +kernel)
theorem xw_3 : (Jvm.Cond.selects "ContextUnfolder$Code" ({ cls := "ContextUnfolder$Code", name := "readSimple", desc := "(LContextUnfolder$Stream;I)V" } : Jvm.MethodName) ({ cls := "ContextUnfolder$Code", name := "readSimple", desc := "(LContextUnfolder$Stream;I)V" } : Jvm.MethodName)) ∈ xg_B := xg_at 3 (by decide +kernel) (by decide +kernel)
theorem xw_4 : (Jvm.Cond.selects "ContextUnfolder$Code" ({ cls := "ContextUnfolder$Code", name := "readLengths", desc := "(LContextUnfolder$Stream;I)V" } : Jvm.MethodName) ({ cls := "ContextUnfolder$Code", name := "readLengths", desc := "(LContextUnfolder$Stream;I)V" } : Jvm.MethodName)) ∈ xg_B := xg_at 4 (by decide +kernel) (by decide +kernel)
theorem xw_5 : (Jvm.Cond.selects "ContextUnfolder$Code" ({ cls := "ContextUnfolder$Code", name := "orderSymbols", desc := "(I)V" } : Jvm.MethodName) ({ cls := "ContextUnfolder$Code", name := "orderSymbols", desc := "(I)V" } : Jvm.MethodName)) ∈ xg_B := xg_at 5 (by decide +kernel) (by decide +kernel)
theorem xw_6 : (Jvm.Cond.selects "ContextUnfolder$LetterReader" ({ cls := "ContextUnfolder$LetterReader", name := "readMap", desc := "(LContextUnfolder$Stream;I)V" } : Jvm.MethodName) ({ cls := "ContextUnfolder$LetterReader", name := "readMap", desc := "(LContextUnfolder$Stream;I)V" } : Jvm.MethodName)) ∈ xg_B := xg_at 6 (by decide +kernel) (by decide +kernel)
theorem xw_7 : (Jvm.Cond.selects "ContextUnfolder$LetterReader" ({ cls := "ContextUnfolder$LetterReader", name := "replacePlaces", desc := "(I)V" } : Jvm.MethodName) ({ cls := "ContextUnfolder$LetterReader", name := "replacePlaces", desc := "(I)V" } : Jvm.MethodName)) ∈ xg_B := xg_at 7 (by decide +kernel) (by decide +kernel)
theorem xw_8 : (Jvm.Cond.selects "ContextUnfolder$BlockReader" ({ cls := "ContextUnfolder$BlockReader", name := "readCommand", desc := "(LContextUnfolder$Stream;LContextUnfolder$Output;)V" } : Jvm.MethodName) ({ cls := "ContextUnfolder$BlockReader", name := "readCommand", desc := "(LContextUnfolder$Stream;LContextUnfolder$Output;)V" } : Jvm.MethodName)) ∈ xg_B := xg_at 8 (by decide +kernel) (by decide +kernel)
theorem xw_9 : (Jvm.Cond.selects "ContextUnfolder$BlockReader" ({ cls := "ContextUnfolder$BlockReader", name := "refuseBeyondEnd", desc := "(LContextUnfolder$Output;I)V" } : Jvm.MethodName) ({ cls := "ContextUnfolder$BlockReader", name := "refuseBeyondEnd", desc := "(LContextUnfolder$Output;I)V" } : Jvm.MethodName)) ∈ xg_B := xg_at 9 (by decide +kernel) (by decide +kernel)
theorem xw_10 : (Jvm.Cond.selects "ContextUnfolder$BlockReader" ({ cls := "ContextUnfolder$BlockReader", name := "readPiece", desc := "(LContextUnfolder$Stream;LContextUnfolder$Output;I)V" } : Jvm.MethodName) ({ cls := "ContextUnfolder$BlockReader", name := "readPiece", desc := "(LContextUnfolder$Stream;LContextUnfolder$Output;I)V" } : Jvm.MethodName)) ∈ xg_B := xg_at 10 (by decide +kernel) (by decide +kernel)
theorem xw_11 : (Jvm.Cond.selects "ContextUnfolder$BlockReader" ({ cls := "ContextUnfolder$BlockReader", name := "addWord", desc := "(LContextUnfolder$Output;II)V" } : Jvm.MethodName) ({ cls := "ContextUnfolder$BlockReader", name := "addWord", desc := "(LContextUnfolder$Output;II)V" } : Jvm.MethodName)) ∈ xg_B := xg_at 11 (by decide +kernel) (by decide +kernel)
theorem xw_12 : (Jvm.Cond.selects "ContextUnfolderModel" ({ cls := "ContextUnfolderModel", name := "first", desc := "([I)V" } : Jvm.MethodName) ({ cls := "ContextUnfolderModel", name := "first", desc := "([I)V" } : Jvm.MethodName)) ∈ xg_B := xg_at 12 (by decide +kernel) (by decide +kernel)
theorem xw_13 : (Jvm.Cond.selects "ContextUnfolderModel" ({ cls := "ContextUnfolderModel", name := "noBit", desc := "(I)Z" } : Jvm.MethodName) ({ cls := "ContextUnfolderModel", name := "noBit", desc := "(I)Z" } : Jvm.MethodName)) ∈ xg_B := xg_at 13 (by decide +kernel) (by decide +kernel)
theorem xw_14 : (Jvm.Cond.selects "ContextUnfolderModel" ({ cls := "ContextUnfolderModel", name := "block", desc := "()Z" } : Jvm.MethodName) ({ cls := "ContextUnfolderModel", name := "block", desc := "()Z" } : Jvm.MethodName)) ∈ xg_B := xg_at 14 (by decide +kernel) (by decide +kernel)
theorem xw_15 : (Jvm.Cond.selects "ContextUnfolderModel" ({ cls := "ContextUnfolderModel", name := "number", desc := "(I)I" } : Jvm.MethodName) ({ cls := "ContextUnfolderModel", name := "number", desc := "(I)I" } : Jvm.MethodName)) ∈ xg_B := xg_at 15 (by decide +kernel) (by decide +kernel)
theorem xw_16 : (Jvm.Cond.selects "ContextUnfolderModel" ({ cls := "ContextUnfolderModel", name := "plain", desc := "(I)V" } : Jvm.MethodName) ({ cls := "ContextUnfolderModel", name := "plain", desc := "(I)V" } : Jvm.MethodName)) ∈ xg_B := xg_at 16 (by decide +kernel) (by decide +kernel)
theorem xw_17 : (Jvm.Cond.selects "ContextUnfolderModel" ({ cls := "ContextUnfolderModel", name := "add", desc := "(I)V" } : Jvm.MethodName) ({ cls := "ContextUnfolderModel", name := "add", desc := "(I)V" } : Jvm.MethodName)) ∈ xg_B := xg_at 17 (by decide +kernel) (by decide +kernel)
theorem xw_18 : (Jvm.Cond.selects "ContextUnfolderModel" ({ cls := "ContextUnfolderModel", name := "readHead", desc := "()V" } : Jvm.MethodName) ({ cls := "ContextUnfolderModel", name := "readHead", desc := "()V" } : Jvm.MethodName)) ∈ xg_B := xg_at 18 (by decide +kernel) (by decide +kernel)
theorem xw_19 : (Jvm.Cond.selects "ContextUnfolderModel" ({ cls := "ContextUnfolderModel", name := "readCode", desc := "(II)V" } : Jvm.MethodName) ({ cls := "ContextUnfolderModel", name := "readCode", desc := "(II)V" } : Jvm.MethodName)) ∈ xg_B := xg_at 19 (by decide +kernel) (by decide +kernel)
theorem xw_20 : (Jvm.Cond.selects "ContextUnfolderModel" ({ cls := "ContextUnfolderModel", name := "readSimple", desc := "(II)V" } : Jvm.MethodName) ({ cls := "ContextUnfolderModel", name := "readSimple", desc := "(II)V" } : Jvm.MethodName)) ∈ xg_B := xg_at 20 (by decide +kernel) (by decide +kernel)
theorem xw_21 : (Jvm.Cond.selects "ContextUnfolderModel" ({ cls := "ContextUnfolderModel", name := "widthOf", desc := "(I)I" } : Jvm.MethodName) ({ cls := "ContextUnfolderModel", name := "widthOf", desc := "(I)I" } : Jvm.MethodName)) ∈ xg_B := xg_at 21 (by decide +kernel) (by decide +kernel)
theorem xw_22 : (Jvm.Cond.selects "ContextUnfolderModel" ({ cls := "ContextUnfolderModel", name := "readMap", desc := "(I)V" } : Jvm.MethodName) ({ cls := "ContextUnfolderModel", name := "readMap", desc := "(I)V" } : Jvm.MethodName)) ∈ xg_B := xg_at 22 (by decide +kernel) (by decide +kernel)
theorem xw_23 : (Jvm.Cond.selects "ContextUnfolderModel" ({ cls := "ContextUnfolderModel", name := "commands", desc := "(I)V" } : Jvm.MethodName) ({ cls := "ContextUnfolderModel", name := "commands", desc := "(I)V" } : Jvm.MethodName)) ∈ xg_B := xg_at 23 (by decide +kernel) (by decide +kernel)
theorem xw_24 : (Jvm.Cond.selects "ContextUnfolderModel" ({ cls := "ContextUnfolderModel", name := "symbol", desc := "(I)I" } : Jvm.MethodName) ({ cls := "ContextUnfolderModel", name := "symbol", desc := "(I)I" } : Jvm.MethodName)) ∈ xg_B := xg_at 24 (by decide +kernel) (by decide +kernel)
theorem xw_25 : (Jvm.Cond.selects "ContextUnfolderModel" ({ cls := "ContextUnfolderModel", name := "wordOf", desc := "(II)I" } : Jvm.MethodName) ({ cls := "ContextUnfolderModel", name := "wordOf", desc := "(II)I" } : Jvm.MethodName)) ∈ xg_B := xg_at 25 (by decide +kernel) (by decide +kernel)
theorem xw_26 : (Jvm.Cond.selects "ContextUnfolderModel" ({ cls := "ContextUnfolderModel", name := "baseOf", desc := "(II)I" } : Jvm.MethodName) ({ cls := "ContextUnfolderModel", name := "baseOf", desc := "(II)I" } : Jvm.MethodName)) ∈ xg_B := xg_at 26 (by decide +kernel) (by decide +kernel)
theorem xw_27 : (Jvm.Cond.selects "ContextUnfolderModel" ({ cls := "ContextUnfolderModel", name := "readLetter", desc := "()V" } : Jvm.MethodName) ({ cls := "ContextUnfolderModel", name := "readLetter", desc := "()V" } : Jvm.MethodName)) ∈ xg_B := xg_at 27 (by decide +kernel) (by decide +kernel)
theorem xw_28 : (Jvm.Cond.selects "ContextUnfolderModel" ({ cls := "ContextUnfolderModel", name := "turn", desc := "()V" } : Jvm.MethodName) ({ cls := "ContextUnfolderModel", name := "turn", desc := "()V" } : Jvm.MethodName)) ∈ xg_B := xg_at 28 (by decide +kernel) (by decide +kernel)
theorem xw_29 : (Jvm.Cond.selects "ContextUnfolderModel" ({ cls := "ContextUnfolderModel", name := "context", desc := "()I" } : Jvm.MethodName) ({ cls := "ContextUnfolderModel", name := "context", desc := "()I" } : Jvm.MethodName)) ∈ xg_B := xg_at 29 (by decide +kernel) (by decide +kernel)
theorem xw_30 : (Jvm.Cond.selects "ContextUnfolderModel" ({ cls := "ContextUnfolderModel", name := "piece", desc := "(II)I" } : Jvm.MethodName) ({ cls := "ContextUnfolderModel", name := "piece", desc := "(II)I" } : Jvm.MethodName)) ∈ xg_B := xg_at 30 (by decide +kernel) (by decide +kernel)
theorem xw_31 : (Jvm.Cond.selects "ContextUnfolderModel" ({ cls := "ContextUnfolderModel", name := "dictionary", desc := "(III)I" } : Jvm.MethodName) ({ cls := "ContextUnfolderModel", name := "dictionary", desc := "(III)I" } : Jvm.MethodName)) ∈ xg_B := xg_at 31 (by decide +kernel) (by decide +kernel)
theorem xw_32 : (Jvm.Cond.selects "ContextUnfolderModel" ({ cls := "ContextUnfolderModel", name := "wordLetter", desc := "(III)I" } : Jvm.MethodName) ({ cls := "ContextUnfolderModel", name := "wordLetter", desc := "(III)I" } : Jvm.MethodName)) ∈ xg_B := xg_at 32 (by decide +kernel) (by decide +kernel)
theorem xw_35 : (Jvm.Cond.initialized "ContextUnfolder$Stream") ∈ xg_B := xg_at 35 (by decide +kernel) (by decide +kernel)
theorem xw_36 : (Jvm.Cond.initialized "ContextUnfolder$BlockReader") ∈ xg_B := xg_at 36 (by decide +kernel) (by decide +kernel)
theorem xw_37 : (Jvm.Cond.initialized "ContextUnfolder$LetterReader") ∈ xg_B := xg_at 37 (by decide +kernel) (by decide +kernel)
theorem xw_38 : (Jvm.Cond.initialized "ContextUnfolder$Code") ∈ xg_B := xg_at 38 (by decide +kernel) (by decide +kernel)
theorem xw_39 : (Jvm.Cond.initialized "ContextUnfolder$Output") ∈ xg_B := xg_at 39 (by decide +kernel) (by decide +kernel)
theorem xw_40 : (Jvm.Cond.initialized "ContextUnfolderModel") ∈ xg_B := xg_at 40 (by decide +kernel) (by decide +kernel)
theorem xw_44 : (Jvm.Cond.initialized "java/lang/IllegalArgumentException") ∈ xg_B := xg_at 44 (by decide +kernel) (by decide +kernel)
theorem xw_45 : (Jvm.Cond.initialized "java/lang/IllegalStateException") ∈ xg_B := xg_at 45 (by decide +kernel) (by decide +kernel)
theorem xw_46 : (Jvm.Cond.initialized "java/lang/IndexOutOfBoundsException") ∈ xg_B := xg_at 46 (by decide +kernel) (by decide +kernel)
theorem xw_47 : (Jvm.Cond.initialized "java/lang/System") ∈ xg_B := xg_at 47 (by decide +kernel) (by decide +kernel)
theorem xw_48 : (Jvm.Cond.initialized "java/util/Arrays") ∈ xg_B := xg_at 48 (by decide +kernel) (by decide +kernel)
theorem xw_63 : (Jvm.Cond.fieldLink "ContextUnfolder$Stream" (9 : Nat) "ContextUnfolder$Stream" "bits" "[Z") ∈ xg_B := xg_at 63 (by decide +kernel) (by decide +kernel)
theorem xw_64 : (Jvm.Cond.fieldLinkNest "ContextUnfolder" (60 : Nat) "ContextUnfolder$Stream" "bits" "[Z" "ContextUnfolder") ∈ xg_B := xg_at 64 (by decide +kernel) (by decide +kernel)
theorem xw_65 : (Jvm.Cond.fieldLink "ContextUnfolder$Stream" (15 : Nat) "ContextUnfolder$Stream" "size" "I") ∈ xg_B := xg_at 65 (by decide +kernel) (by decide +kernel)
theorem xw_66 : (Jvm.Cond.fieldLinkNest "ContextUnfolder" (42 : Nat) "ContextUnfolder$Stream" "size" "I" "ContextUnfolder") ∈ xg_B := xg_at 66 (by decide +kernel) (by decide +kernel)
theorem xw_67 : (Jvm.Cond.fieldLink "ContextUnfolder$Stream" (19 : Nat) "ContextUnfolder$Stream" "position" "I") ∈ xg_B := xg_at 67 (by decide +kernel) (by decide +kernel)
theorem xw_68 : (Jvm.Cond.fieldLinkNest "ContextUnfolder" (66 : Nat) "ContextUnfolder$Stream" "position" "I" "ContextUnfolder") ∈ xg_B := xg_at 68 (by decide +kernel) (by decide +kernel)
theorem xw_95 : (Jvm.Cond.fieldLink "ContextUnfolder$Code" (9 : Nat) "ContextUnfolder$Code" "lengths" "[I") ∈ xg_B := xg_at 95 (by decide +kernel) (by decide +kernel)
theorem xw_96 : (Jvm.Cond.fieldLink "ContextUnfolder$Code" (13 : Nat) "ContextUnfolder$Code" "ordered" "[I") ∈ xg_B := xg_at 96 (by decide +kernel) (by decide +kernel)
theorem xw_97 : (Jvm.Cond.fieldLink "ContextUnfolder$Code" (16 : Nat) "ContextUnfolder$Code" "wordsOfLength" "[I") ∈ xg_B := xg_at 97 (by decide +kernel) (by decide +kernel)
theorem xw_107 : (Jvm.Cond.fieldLink "ContextUnfolder$LetterReader" (10 : Nat) "ContextUnfolder$LetterReader" "typeCode" "LContextUnfolder$Code;") ∈ xg_B := xg_at 107 (by decide +kernel) (by decide +kernel)
theorem xw_108 : (Jvm.Cond.fieldLink "ContextUnfolder$LetterReader" (16 : Nat) "ContextUnfolder$LetterReader" "letterCodes" "[LContextUnfolder$Code;") ∈ xg_B := xg_at 108 (by decide +kernel) (by decide +kernel)
theorem xw_109 : (Jvm.Cond.fieldLink "ContextUnfolder$LetterReader" (20 : Nat) "ContextUnfolder$LetterReader" "modes" "[I") ∈ xg_B := xg_at 109 (by decide +kernel) (by decide +kernel)
theorem xw_110 : (Jvm.Cond.fieldLink "ContextUnfolder$LetterReader" (24 : Nat) "ContextUnfolder$LetterReader" "map" "[I") ∈ xg_B := xg_at 110 (by decide +kernel) (by decide +kernel)
theorem xw_111 : (Jvm.Cond.fieldLink "ContextUnfolder$LetterReader" (27 : Nat) "ContextUnfolder$LetterReader" "row" "[I") ∈ xg_B := xg_at 111 (by decide +kernel) (by decide +kernel)
theorem xw_112 : (Jvm.Cond.fieldLink "ContextUnfolder$LetterReader" (36 : Nat) "ContextUnfolder$LetterReader" "types" "I") ∈ xg_B := xg_at 112 (by decide +kernel) (by decide +kernel)
theorem xw_113 : (Jvm.Cond.fieldLink "ContextUnfolder$LetterReader" (47 : Nat) "ContextUnfolder$LetterReader" "type" "I") ∈ xg_B := xg_at 113 (by decide +kernel) (by decide +kernel)
theorem xw_114 : (Jvm.Cond.fieldLink "ContextUnfolder$LetterReader" (50 : Nat) "ContextUnfolder$LetterReader" "typeBefore" "I") ∈ xg_B := xg_at 114 (by decide +kernel) (by decide +kernel)
theorem xw_115 : (Jvm.Cond.fieldLink "ContextUnfolder$LetterReader" (57 : Nat) "ContextUnfolder$LetterReader" "stretchLeft" "I") ∈ xg_B := xg_at 115 (by decide +kernel) (by decide +kernel)
theorem xw_137 : (Jvm.Cond.fieldLink "ContextUnfolder$BlockReader" (12 : Nat) "ContextUnfolder$BlockReader" "letters" "LContextUnfolder$LetterReader;") ∈ xg_B := xg_at 137 (by decide +kernel) (by decide +kernel)
theorem xw_138 : (Jvm.Cond.fieldLink "ContextUnfolder$BlockReader" (21 : Nat) "ContextUnfolder$BlockReader" "commandCode" "LContextUnfolder$Code;") ∈ xg_B := xg_at 138 (by decide +kernel) (by decide +kernel)
theorem xw_139 : (Jvm.Cond.fieldLink "ContextUnfolder$BlockReader" (25 : Nat) "ContextUnfolder$BlockReader" "distanceCode" "LContextUnfolder$Code;") ∈ xg_B := xg_at 139 (by decide +kernel) (by decide +kernel)
theorem xw_140 : (Jvm.Cond.fieldLink "ContextUnfolder$BlockReader" (44 : Nat) "ContextUnfolder$BlockReader" "end" "I") ∈ xg_B := xg_at 140 (by decide +kernel) (by decide +kernel)
theorem xw_156 : (Jvm.Cond.fieldLink "ContextUnfolder$Output" (15 : Nat) "ContextUnfolder$Output" "COUNTS_AT_FIRST" "[I") ∈ xg_B := xg_at 156 (by decide +kernel) (by decide +kernel)
theorem xw_165 : (Jvm.Cond.fieldLink "ContextUnfolder$Output" (9 : Nat) "ContextUnfolder$Output" "letters" "[I") ∈ xg_B := xg_at 165 (by decide +kernel) (by decide +kernel)
theorem xw_166 : (Jvm.Cond.fieldLinkNest "ContextUnfolder" (79 : Nat) "ContextUnfolder$Output" "letters" "[I" "ContextUnfolder") ∈ xg_B := xg_at 166 (by decide +kernel) (by decide +kernel)
theorem xw_167 : (Jvm.Cond.fieldLink "ContextUnfolder$Output" (23 : Nat) "ContextUnfolder$Output" "counts" "[I") ∈ xg_B := xg_at 167 (by decide +kernel) (by decide +kernel)
theorem xw_168 : (Jvm.Cond.fieldLinkNest "ContextUnfolder$BlockReader" (34 : Nat) "ContextUnfolder$Output" "counts" "[I" "ContextUnfolder") ∈ xg_B := xg_at 168 (by decide +kernel) (by decide +kernel)
theorem xw_169 : (Jvm.Cond.fieldLinkNest "ContextUnfolder" (85 : Nat) "ContextUnfolder$Output" "counts" "[I" "ContextUnfolder") ∈ xg_B := xg_at 169 (by decide +kernel) (by decide +kernel)
theorem xw_170 : (Jvm.Cond.fieldLink "ContextUnfolder$Output" (26 : Nat) "ContextUnfolder$Output" "size" "I") ∈ xg_B := xg_at 170 (by decide +kernel) (by decide +kernel)
theorem xw_171 : (Jvm.Cond.fieldLinkNest "ContextUnfolder$BlockReader" (40 : Nat) "ContextUnfolder$Output" "size" "I" "ContextUnfolder") ∈ xg_B := xg_at 171 (by decide +kernel) (by decide +kernel)
theorem xw_172 : (Jvm.Cond.fieldLinkNest "ContextUnfolder" (76 : Nat) "ContextUnfolder$Output" "size" "I" "ContextUnfolder") ∈ xg_B := xg_at 172 (by decide +kernel) (by decide +kernel)
theorem xw_180 : (Jvm.Cond.fieldLink "ContextUnfolder" (12 : Nat) "ContextUnfolder" "stream" "LContextUnfolder$Stream;") ∈ xg_B := xg_at 180 (by decide +kernel) (by decide +kernel)
theorem xw_181 : (Jvm.Cond.fieldLink "ContextUnfolder" (19 : Nat) "ContextUnfolder" "blocks" "LContextUnfolder$BlockReader;") ∈ xg_B := xg_at 181 (by decide +kernel) (by decide +kernel)
theorem xw_182 : (Jvm.Cond.fieldLink "ContextUnfolder" (26 : Nat) "ContextUnfolder" "shown" "LContextUnfolder$Output;") ∈ xg_B := xg_at 182 (by decide +kernel) (by decide +kernel)
theorem xw_183 : (Jvm.Cond.fieldLink "ContextUnfolder" (30 : Nat) "ContextUnfolder" "spare" "LContextUnfolder$Output;") ∈ xg_B := xg_at 183 (by decide +kernel) (by decide +kernel)
theorem xw_206 : (Jvm.Cond.classLink "ContextUnfolder" (33 : Nat) "java/lang/IllegalArgumentException") ∈ xg_B := xg_at 206 (by decide +kernel) (by decide +kernel)
theorem xw_275 : (Jvm.Cond.classLink "ContextUnfolder" (46 : Nat) "java/lang/IllegalStateException") ∈ xg_B := xg_at 275 (by decide +kernel) (by decide +kernel)
theorem xw_291 : (Jvm.Cond.methodLink "ContextUnfolder" (51 : Nat) ({ cls := "ContextUnfolder$Stream", name := "append", desc := "(II)V" } : Jvm.MethodName)) ∈ xg_B := xg_at 291 (by decide +kernel) (by decide +kernel)
theorem xw_292 : (Jvm.Cond.instanceMethod ({ cls := "ContextUnfolder$Stream", name := "append", desc := "(II)V" } : Jvm.MethodName)) ∈ xg_B := xg_at 292 (by decide +kernel) (by decide +kernel)
theorem xw_293 : (Jvm.Cond.selects "ContextUnfolder$Stream" ({ cls := "ContextUnfolder$Stream", name := "append", desc := "(II)V" } : Jvm.MethodName) ({ cls := "ContextUnfolder$Stream", name := "append", desc := "(II)V" } : Jvm.MethodName)) ∈ xg_B := xg_at 293 (by decide +kernel) (by decide +kernel)
theorem xw_294 : (Jvm.Cond.code ({ cls := "ContextUnfolder$Stream", name := "append", desc := "(II)V" } : Jvm.MethodName) prog_6_method_2_code (4 : Nat) (Option.none : Option Jvm.ClassFile.FieldType)) ∈ xg_B := xg_at 294 (by decide +kernel) (by decide +kernel)
theorem xw_303 : (Jvm.Cond.classLink "ContextUnfolder" (55 : Nat) "java/lang/IndexOutOfBoundsException") ∈ xg_B := xg_at 303 (by decide +kernel) (by decide +kernel)
theorem xw_341 : (Jvm.Cond.methodLink "ContextUnfolder" (69 : Nat) ({ cls := "ContextUnfolder$Output", name := "clear", desc := "()V" } : Jvm.MethodName)) ∈ xg_B := xg_at 341 (by decide +kernel) (by decide +kernel)
theorem xw_342 : (Jvm.Cond.instanceMethod ({ cls := "ContextUnfolder$Output", name := "clear", desc := "()V" } : Jvm.MethodName)) ∈ xg_B := xg_at 342 (by decide +kernel) (by decide +kernel)
theorem xw_343 : (Jvm.Cond.selects "ContextUnfolder$Output" ({ cls := "ContextUnfolder$Output", name := "clear", desc := "()V" } : Jvm.MethodName) ({ cls := "ContextUnfolder$Output", name := "clear", desc := "()V" } : Jvm.MethodName)) ∈ xg_B := xg_at 343 (by decide +kernel) (by decide +kernel)
theorem xw_344 : (Jvm.Cond.code ({ cls := "ContextUnfolder$Output", name := "clear", desc := "()V" } : Jvm.MethodName) prog_5_method_2_code (1 : Nat) (Option.none : Option Jvm.ClassFile.FieldType)) ∈ xg_B := xg_at 344 (by decide +kernel) (by decide +kernel)
theorem xw_345 : (Jvm.Cond.methodLink "ContextUnfolder$Output" (30 : Nat) ({ cls := "java/lang/System", name := "arraycopy", desc := "(Ljava/lang/Object;ILjava/lang/Object;II)V" } : Jvm.MethodName)) ∈ xg_B := xg_at 345 (by decide +kernel) (by decide +kernel)
theorem xw_346 : (Jvm.Cond.static ({ cls := "java/lang/System", name := "arraycopy", desc := "(Ljava/lang/Object;ILjava/lang/Object;II)V" } : Jvm.MethodName)) ∈ xg_B := xg_at 346 (by decide +kernel) (by decide +kernel)
theorem xw_347 : (Jvm.Cond.native ({ cls := "java/lang/System", name := "arraycopy", desc := "(Ljava/lang/Object;ILjava/lang/Object;II)V" } : Jvm.MethodName)) ∈ xg_B := xg_at 347 (by decide +kernel) (by decide +kernel)
theorem xw_348 : (Jvm.Cond.methodLink "ContextUnfolder" (72 : Nat) ({ cls := "ContextUnfolder$BlockReader", name := "readBlock", desc := "(LContextUnfolder$Stream;LContextUnfolder$Output;)Z" } : Jvm.MethodName)) ∈ xg_B := xg_at 348 (by decide +kernel) (by decide +kernel)
theorem xw_349 : (Jvm.Cond.instanceMethod ({ cls := "ContextUnfolder$BlockReader", name := "readBlock", desc := "(LContextUnfolder$Stream;LContextUnfolder$Output;)Z" } : Jvm.MethodName)) ∈ xg_B := xg_at 349 (by decide +kernel) (by decide +kernel)
theorem xw_350 : (Jvm.Cond.selects "ContextUnfolder$BlockReader" ({ cls := "ContextUnfolder$BlockReader", name := "readBlock", desc := "(LContextUnfolder$Stream;LContextUnfolder$Output;)Z" } : Jvm.MethodName) ({ cls := "ContextUnfolder$BlockReader", name := "readBlock", desc := "(LContextUnfolder$Stream;LContextUnfolder$Output;)Z" } : Jvm.MethodName)) ∈ xg_B := xg_at 350 (by decide +kernel) (by decide +kernel)
theorem xw_351 : (Jvm.Cond.code ({ cls := "ContextUnfolder$BlockReader", name := "readBlock", desc := "(LContextUnfolder$Stream;LContextUnfolder$Output;)Z" } : Jvm.MethodName) prog_2_method_2_code (4 : Nat) (Option.some Jvm.ClassFile.FieldType.boolean)) ∈ xg_B := xg_at 351 (by decide +kernel) (by decide +kernel)
theorem xw_352 : (Jvm.Cond.methodLink "ContextUnfolder$BlockReader" (28 : Nat) ({ cls := "ContextUnfolder$Stream", name := "readNumber", desc := "(I)I" } : Jvm.MethodName)) ∈ xg_B := xg_at 352 (by decide +kernel) (by decide +kernel)
theorem xw_353 : (Jvm.Cond.instanceMethod ({ cls := "ContextUnfolder$Stream", name := "readNumber", desc := "(I)I" } : Jvm.MethodName)) ∈ xg_B := xg_at 353 (by decide +kernel) (by decide +kernel)
theorem xw_354 : (Jvm.Cond.selects "ContextUnfolder$Stream" ({ cls := "ContextUnfolder$Stream", name := "readNumber", desc := "(I)I" } : Jvm.MethodName) ({ cls := "ContextUnfolder$Stream", name := "readNumber", desc := "(I)I" } : Jvm.MethodName)) ∈ xg_B := xg_at 354 (by decide +kernel) (by decide +kernel)
theorem xw_355 : (Jvm.Cond.code ({ cls := "ContextUnfolder$Stream", name := "readNumber", desc := "(I)I" } : Jvm.MethodName) prog_6_method_3_code (4 : Nat) (Option.some Jvm.ClassFile.FieldType.int)) ∈ xg_B := xg_at 355 (by decide +kernel) (by decide +kernel)
theorem xw_356 : (Jvm.Cond.classLink "ContextUnfolder$Stream" (22 : Nat) "java/lang/IllegalArgumentException") ∈ xg_B := xg_at 356 (by decide +kernel) (by decide +kernel)
theorem xw_359 : (Jvm.Cond.classLink "ContextUnfolder$BlockReader" (47 : Nat) "java/lang/IllegalArgumentException") ∈ xg_B := xg_at 359 (by decide +kernel) (by decide +kernel)
theorem xw_362 : (Jvm.Cond.methodLink "ContextUnfolder$BlockReader" (54 : Nat) ({ cls := "ContextUnfolder$BlockReader", name := "readPlain", desc := "(LContextUnfolder$Stream;LContextUnfolder$Output;)V" } : Jvm.MethodName)) ∈ xg_B := xg_at 362 (by decide +kernel) (by decide +kernel)
theorem xw_364 : (Jvm.Cond.instanceMethod ({ cls := "ContextUnfolder$BlockReader", name := "readPlain", desc := "(LContextUnfolder$Stream;LContextUnfolder$Output;)V" } : Jvm.MethodName)) ∈ xg_B := xg_at 364 (by decide +kernel) (by decide +kernel)
theorem xw_365 : (Jvm.Cond.code ({ cls := "ContextUnfolder$BlockReader", name := "readPlain", desc := "(LContextUnfolder$Stream;LContextUnfolder$Output;)V" } : Jvm.MethodName) prog_2_method_3_code (4 : Nat) (Option.none : Option Jvm.ClassFile.FieldType)) ∈ xg_B := xg_at 365 (by decide +kernel) (by decide +kernel)
theorem xw_366 : (Jvm.Cond.methodLink "ContextUnfolder$BlockReader" (61 : Nat) ({ cls := "ContextUnfolder$Output", name := "add", desc := "(II)V" } : Jvm.MethodName)) ∈ xg_B := xg_at 366 (by decide +kernel) (by decide +kernel)
theorem xw_367 : (Jvm.Cond.instanceMethod ({ cls := "ContextUnfolder$Output", name := "add", desc := "(II)V" } : Jvm.MethodName)) ∈ xg_B := xg_at 367 (by decide +kernel) (by decide +kernel)
theorem xw_368 : (Jvm.Cond.selects "ContextUnfolder$Output" ({ cls := "ContextUnfolder$Output", name := "add", desc := "(II)V" } : Jvm.MethodName) ({ cls := "ContextUnfolder$Output", name := "add", desc := "(II)V" } : Jvm.MethodName)) ∈ xg_B := xg_at 368 (by decide +kernel) (by decide +kernel)
theorem xw_369 : (Jvm.Cond.code ({ cls := "ContextUnfolder$Output", name := "add", desc := "(II)V" } : Jvm.MethodName) prog_5_method_3_code (3 : Nat) (Option.none : Option Jvm.ClassFile.FieldType)) ∈ xg_B := xg_at 369 (by decide +kernel) (by decide +kernel)
theorem xw_370 : (Jvm.Cond.methodLink "ContextUnfolder$BlockReader" (58 : Nat) ({ cls := "ContextUnfolder$BlockReader", name := "readCoded", desc := "(LContextUnfolder$Stream;LContextUnfolder$Output;)V" } : Jvm.MethodName)) ∈ xg_B := xg_at 370 (by decide +kernel) (by decide +kernel)
theorem xw_372 : (Jvm.Cond.instanceMethod ({ cls := "ContextUnfolder$BlockReader", name := "readCoded", desc := "(LContextUnfolder$Stream;LContextUnfolder$Output;)V" } : Jvm.MethodName)) ∈ xg_B := xg_at 372 (by decide +kernel) (by decide +kernel)
theorem xw_373 : (Jvm.Cond.code ({ cls := "ContextUnfolder$BlockReader", name := "readCoded", desc := "(LContextUnfolder$Stream;LContextUnfolder$Output;)V" } : Jvm.MethodName) prog_2_method_4_code (4 : Nat) (Option.none : Option Jvm.ClassFile.FieldType)) ∈ xg_B := xg_at 373 (by decide +kernel) (by decide +kernel)
theorem xw_374 : (Jvm.Cond.methodLink "ContextUnfolder$BlockReader" (65 : Nat) ({ cls := "ContextUnfolder$LetterReader", name := "readTypes", desc := "(LContextUnfolder$Stream;)V" } : Jvm.MethodName)) ∈ xg_B := xg_at 374 (by decide +kernel) (by decide +kernel)
theorem xw_375 : (Jvm.Cond.instanceMethod ({ cls := "ContextUnfolder$LetterReader", name := "readTypes", desc := "(LContextUnfolder$Stream;)V" } : Jvm.MethodName)) ∈ xg_B := xg_at 375 (by decide +kernel) (by decide +kernel)
theorem xw_376 : (Jvm.Cond.selects "ContextUnfolder$LetterReader" ({ cls := "ContextUnfolder$LetterReader", name := "readTypes", desc := "(LContextUnfolder$Stream;)V" } : Jvm.MethodName) ({ cls := "ContextUnfolder$LetterReader", name := "readTypes", desc := "(LContextUnfolder$Stream;)V" } : Jvm.MethodName)) ∈ xg_B := xg_at 376 (by decide +kernel) (by decide +kernel)
theorem xw_377 : (Jvm.Cond.code ({ cls := "ContextUnfolder$LetterReader", name := "readTypes", desc := "(LContextUnfolder$Stream;)V" } : Jvm.MethodName) prog_4_method_2_code (3 : Nat) (Option.none : Option Jvm.ClassFile.FieldType)) ∈ xg_B := xg_at 377 (by decide +kernel) (by decide +kernel)
theorem xw_378 : (Jvm.Cond.methodLink "ContextUnfolder$LetterReader" (30 : Nat) ({ cls := "ContextUnfolder$Stream", name := "readNumber", desc := "(I)I" } : Jvm.MethodName)) ∈ xg_B := xg_at 378 (by decide +kernel) (by decide +kernel)
theorem xw_379 : (Jvm.Cond.classLink "ContextUnfolder$LetterReader" (40 : Nat) "java/lang/IllegalArgumentException") ∈ xg_B := xg_at 379 (by decide +kernel) (by decide +kernel)
theorem xw_382 : (Jvm.Cond.methodLink "ContextUnfolder$LetterReader" (53 : Nat) ({ cls := "ContextUnfolder$Code", name := "readCode", desc := "(LContextUnfolder$Stream;I)V" } : Jvm.MethodName)) ∈ xg_B := xg_at 382 (by decide +kernel) (by decide +kernel)
theorem xw_383 : (Jvm.Cond.instanceMethod ({ cls := "ContextUnfolder$Code", name := "readCode", desc := "(LContextUnfolder$Stream;I)V" } : Jvm.MethodName)) ∈ xg_B := xg_at 383 (by decide +kernel) (by decide +kernel)
theorem xw_384 : (Jvm.Cond.selects "ContextUnfolder$Code" ({ cls := "ContextUnfolder$Code", name := "readCode", desc := "(LContextUnfolder$Stream;I)V" } : Jvm.MethodName) ({ cls := "ContextUnfolder$Code", name := "readCode", desc := "(LContextUnfolder$Stream;I)V" } : Jvm.MethodName)) ∈ xg_B := xg_at 384 (by decide +kernel) (by decide +kernel)
theorem xw_385 : (Jvm.Cond.code ({ cls := "ContextUnfolder$Code", name := "readCode", desc := "(LContextUnfolder$Stream;I)V" } : Jvm.MethodName) prog_3_method_2_code (3 : Nat) (Option.none : Option Jvm.ClassFile.FieldType)) ∈ xg_B := xg_at 385 (by decide +kernel) (by decide +kernel)
theorem xw_386 : (Jvm.Cond.methodLink "ContextUnfolder$Code" (19 : Nat) ({ cls := "java/util/Arrays", name := "fill", desc := "([II)V" } : Jvm.MethodName)) ∈ xg_B := xg_at 386 (by decide +kernel) (by decide +kernel)
theorem xw_387 : (Jvm.Cond.static ({ cls := "java/util/Arrays", name := "fill", desc := "([II)V" } : Jvm.MethodName)) ∈ xg_B := xg_at 387 (by decide +kernel) (by decide +kernel)
theorem xw_388 : (Jvm.Cond.code ({ cls := "java/util/Arrays", name := "fill", desc := "([II)V" } : Jvm.MethodName) prog_18_method_103_code (4 : Nat) (Option.none : Option Jvm.ClassFile.FieldType)) ∈ xg_B := xg_at 388 (by decide +kernel) (by decide +kernel)
theorem xw_389 : (Jvm.Cond.methodLink "ContextUnfolder$Code" (25 : Nat) ({ cls := "ContextUnfolder$Stream", name := "readNumber", desc := "(I)I" } : Jvm.MethodName)) ∈ xg_B := xg_at 389 (by decide +kernel) (by decide +kernel)
theorem xw_390 : (Jvm.Cond.methodLink "ContextUnfolder$Code" (31 : Nat) ({ cls := "ContextUnfolder$Code", name := "readSimple", desc := "(LContextUnfolder$Stream;I)V" } : Jvm.MethodName)) ∈ xg_B := xg_at 390 (by decide +kernel) (by decide +kernel)
theorem xw_392 : (Jvm.Cond.instanceMethod ({ cls := "ContextUnfolder$Code", name := "readSimple", desc := "(LContextUnfolder$Stream;I)V" } : Jvm.MethodName)) ∈ xg_B := xg_at 392 (by decide +kernel) (by decide +kernel)
theorem xw_393 : (Jvm.Cond.code ({ cls := "ContextUnfolder$Code", name := "readSimple", desc := "(LContextUnfolder$Stream;I)V" } : Jvm.MethodName) prog_3_method_4_code (8 : Nat) (Option.none : Option Jvm.ClassFile.FieldType)) ∈ xg_B := xg_at 393 (by decide +kernel) (by decide +kernel)
theorem xw_394 : (Jvm.Cond.methodLink "ContextUnfolder$Code" (49 : Nat) ({ cls := "ContextUnfolder$Code", name := "symbolBits", desc := "(I)I" } : Jvm.MethodName)) ∈ xg_B := xg_at 394 (by decide +kernel) (by decide +kernel)
theorem xw_395 : (Jvm.Cond.static ({ cls := "ContextUnfolder$Code", name := "symbolBits", desc := "(I)I" } : Jvm.MethodName)) ∈ xg_B := xg_at 395 (by decide +kernel) (by decide +kernel)
theorem xw_396 : (Jvm.Cond.code ({ cls := "ContextUnfolder$Code", name := "symbolBits", desc := "(I)I" } : Jvm.MethodName) prog_3_method_7_code (2 : Nat) (Option.some Jvm.ClassFile.FieldType.int)) ∈ xg_B := xg_at 396 (by decide +kernel) (by decide +kernel)
theorem xw_397 : (Jvm.Cond.classLink "ContextUnfolder$Code" (42 : Nat) "java/lang/IllegalArgumentException") ∈ xg_B := xg_at 397 (by decide +kernel) (by decide +kernel)
theorem xw_400 : (Jvm.Cond.fieldLink "ContextUnfolder$Code" (54 : Nat) "ContextUnfolder$Code" "SIMPLE_LENGTHS" "[I") ∈ xg_B := xg_at 400 (by decide +kernel) (by decide +kernel)
theorem xw_402 : (Jvm.Cond.methodLink "ContextUnfolder$Code" (35 : Nat) ({ cls := "ContextUnfolder$Code", name := "readLengths", desc := "(LContextUnfolder$Stream;I)V" } : Jvm.MethodName)) ∈ xg_B := xg_at 402 (by decide +kernel) (by decide +kernel)
theorem xw_404 : (Jvm.Cond.instanceMethod ({ cls := "ContextUnfolder$Code", name := "readLengths", desc := "(LContextUnfolder$Stream;I)V" } : Jvm.MethodName)) ∈ xg_B := xg_at 404 (by decide +kernel) (by decide +kernel)
theorem xw_405 : (Jvm.Cond.code ({ cls := "ContextUnfolder$Code", name := "readLengths", desc := "(LContextUnfolder$Stream;I)V" } : Jvm.MethodName) prog_3_method_5_code (6 : Nat) (Option.none : Option Jvm.ClassFile.FieldType)) ∈ xg_B := xg_at 405 (by decide +kernel) (by decide +kernel)
theorem xw_408 : (Jvm.Cond.methodLink "ContextUnfolder$Code" (38 : Nat) ({ cls := "ContextUnfolder$Code", name := "orderSymbols", desc := "(I)V" } : Jvm.MethodName)) ∈ xg_B := xg_at 408 (by decide +kernel) (by decide +kernel)
theorem xw_410 : (Jvm.Cond.instanceMethod ({ cls := "ContextUnfolder$Code", name := "orderSymbols", desc := "(I)V" } : Jvm.MethodName)) ∈ xg_B := xg_at 410 (by decide +kernel) (by decide +kernel)
theorem xw_411 : (Jvm.Cond.code ({ cls := "ContextUnfolder$Code", name := "orderSymbols", desc := "(I)V" } : Jvm.MethodName) prog_3_method_6_code (6 : Nat) (Option.none : Option Jvm.ClassFile.FieldType)) ∈ xg_B := xg_at 411 (by decide +kernel) (by decide +kernel)
theorem xw_412 : (Jvm.Cond.methodLink "ContextUnfolder$BlockReader" (69 : Nat) ({ cls := "ContextUnfolder$LetterReader", name := "readLetterCodes", desc := "(LContextUnfolder$Stream;)V" } : Jvm.MethodName)) ∈ xg_B := xg_at 412 (by decide +kernel) (by decide +kernel)
theorem xw_413 : (Jvm.Cond.instanceMethod ({ cls := "ContextUnfolder$LetterReader", name := "readLetterCodes", desc := "(LContextUnfolder$Stream;)V" } : Jvm.MethodName)) ∈ xg_B := xg_at 413 (by decide +kernel) (by decide +kernel)
theorem xw_414 : (Jvm.Cond.selects "ContextUnfolder$LetterReader" ({ cls := "ContextUnfolder$LetterReader", name := "readLetterCodes", desc := "(LContextUnfolder$Stream;)V" } : Jvm.MethodName) ({ cls := "ContextUnfolder$LetterReader", name := "readLetterCodes", desc := "(LContextUnfolder$Stream;)V" } : Jvm.MethodName)) ∈ xg_B := xg_at 414 (by decide +kernel) (by decide +kernel)
theorem xw_415 : (Jvm.Cond.code ({ cls := "ContextUnfolder$LetterReader", name := "readLetterCodes", desc := "(LContextUnfolder$Stream;)V" } : Jvm.MethodName) prog_4_method_3_code (4 : Nat) (Option.none : Option Jvm.ClassFile.FieldType)) ∈ xg_B := xg_at 415 (by decide +kernel) (by decide +kernel)
theorem xw_416 : (Jvm.Cond.methodLink "ContextUnfolder$LetterReader" (60 : Nat) ({ cls := "ContextUnfolder$LetterReader", name := "readMap", desc := "(LContextUnfolder$Stream;I)V" } : Jvm.MethodName)) ∈ xg_B := xg_at 416 (by decide +kernel) (by decide +kernel)
theorem xw_418 : (Jvm.Cond.instanceMethod ({ cls := "ContextUnfolder$LetterReader", name := "readMap", desc := "(LContextUnfolder$Stream;I)V" } : Jvm.MethodName)) ∈ xg_B := xg_at 418 (by decide +kernel) (by decide +kernel)
theorem xw_419 : (Jvm.Cond.code ({ cls := "ContextUnfolder$LetterReader", name := "readMap", desc := "(LContextUnfolder$Stream;I)V" } : Jvm.MethodName) prog_4_method_7_code (5 : Nat) (Option.none : Option Jvm.ClassFile.FieldType)) ∈ xg_B := xg_at 419 (by decide +kernel) (by decide +kernel)
theorem xw_421 : (Jvm.Cond.methodLink "ContextUnfolder$LetterReader" (79 : Nat) ({ cls := "ContextUnfolder$LetterReader", name := "replacePlaces", desc := "(I)V" } : Jvm.MethodName)) ∈ xg_B := xg_at 421 (by decide +kernel) (by decide +kernel)
theorem xw_423 : (Jvm.Cond.instanceMethod ({ cls := "ContextUnfolder$LetterReader", name := "replacePlaces", desc := "(I)V" } : Jvm.MethodName)) ∈ xg_B := xg_at 423 (by decide +kernel) (by decide +kernel)
theorem xw_424 : (Jvm.Cond.code ({ cls := "ContextUnfolder$LetterReader", name := "replacePlaces", desc := "(I)V" } : Jvm.MethodName) prog_4_method_8_code (6 : Nat) (Option.none : Option Jvm.ClassFile.FieldType)) ∈ xg_B := xg_at 424 (by decide +kernel) (by decide +kernel)
theorem xw_425 : (Jvm.Cond.methodLink "ContextUnfolder$LetterReader" (63 : Nat) ({ cls := "java/util/Arrays", name := "fill", desc := "([II)V" } : Jvm.MethodName)) ∈ xg_B := xg_at 425 (by decide +kernel) (by decide +kernel)
theorem xw_426 : (Jvm.Cond.methodLink "ContextUnfolder$BlockReader" (72 : Nat) ({ cls := "ContextUnfolder$Code", name := "readCode", desc := "(LContextUnfolder$Stream;I)V" } : Jvm.MethodName)) ∈ xg_B := xg_at 426 (by decide +kernel) (by decide +kernel)
theorem xw_427 : (Jvm.Cond.methodLink "ContextUnfolder$BlockReader" (76 : Nat) ({ cls := "ContextUnfolder$BlockReader", name := "readCommand", desc := "(LContextUnfolder$Stream;LContextUnfolder$Output;)V" } : Jvm.MethodName)) ∈ xg_B := xg_at 427 (by decide +kernel) (by decide +kernel)
theorem xw_429 : (Jvm.Cond.instanceMethod ({ cls := "ContextUnfolder$BlockReader", name := "readCommand", desc := "(LContextUnfolder$Stream;LContextUnfolder$Output;)V" } : Jvm.MethodName)) ∈ xg_B := xg_at 429 (by decide +kernel) (by decide +kernel)
theorem xw_430 : (Jvm.Cond.code ({ cls := "ContextUnfolder$BlockReader", name := "readCommand", desc := "(LContextUnfolder$Stream;LContextUnfolder$Output;)V" } : Jvm.MethodName) prog_2_method_5_code (10 : Nat) (Option.none : Option Jvm.ClassFile.FieldType)) ∈ xg_B := xg_at 430 (by decide +kernel) (by decide +kernel)
theorem xw_431 : (Jvm.Cond.methodLink "ContextUnfolder$BlockReader" (79 : Nat) ({ cls := "ContextUnfolder$Code", name := "readSymbol", desc := "(LContextUnfolder$Stream;)I" } : Jvm.MethodName)) ∈ xg_B := xg_at 431 (by decide +kernel) (by decide +kernel)
theorem xw_432 : (Jvm.Cond.instanceMethod ({ cls := "ContextUnfolder$Code", name := "readSymbol", desc := "(LContextUnfolder$Stream;)I" } : Jvm.MethodName)) ∈ xg_B := xg_at 432 (by decide +kernel) (by decide +kernel)
theorem xw_433 : (Jvm.Cond.selects "ContextUnfolder$Code" ({ cls := "ContextUnfolder$Code", name := "readSymbol", desc := "(LContextUnfolder$Stream;)I" } : Jvm.MethodName) ({ cls := "ContextUnfolder$Code", name := "readSymbol", desc := "(LContextUnfolder$Stream;)I" } : Jvm.MethodName)) ∈ xg_B := xg_at 433 (by decide +kernel) (by decide +kernel)
theorem xw_434 : (Jvm.Cond.code ({ cls := "ContextUnfolder$Code", name := "readSymbol", desc := "(LContextUnfolder$Stream;)I" } : Jvm.MethodName) prog_3_method_3_code (6 : Nat) (Option.some Jvm.ClassFile.FieldType.int)) ∈ xg_B := xg_at 434 (by decide +kernel) (by decide +kernel)
theorem xw_436 : (Jvm.Cond.fieldLink "ContextUnfolder$BlockReader" (83 : Nat) "ContextUnfolder$BlockReader" "LEAST_INSERTED" "[I") ∈ xg_B := xg_at 436 (by decide +kernel) (by decide +kernel)
theorem xw_438 : (Jvm.Cond.fieldLink "ContextUnfolder$BlockReader" (86 : Nat) "ContextUnfolder$BlockReader" "LEAST_COPIED" "[I") ∈ xg_B := xg_at 438 (by decide +kernel) (by decide +kernel)
theorem xw_440 : (Jvm.Cond.methodLink "ContextUnfolder$BlockReader" (89 : Nat) ({ cls := "ContextUnfolder$BlockReader", name := "refuseBeyondEnd", desc := "(LContextUnfolder$Output;I)V" } : Jvm.MethodName)) ∈ xg_B := xg_at 440 (by decide +kernel) (by decide +kernel)
theorem xw_442 : (Jvm.Cond.instanceMethod ({ cls := "ContextUnfolder$BlockReader", name := "refuseBeyondEnd", desc := "(LContextUnfolder$Output;I)V" } : Jvm.MethodName)) ∈ xg_B := xg_at 442 (by decide +kernel) (by decide +kernel)
theorem xw_443 : (Jvm.Cond.code ({ cls := "ContextUnfolder$BlockReader", name := "refuseBeyondEnd", desc := "(LContextUnfolder$Output;I)V" } : Jvm.MethodName) prog_2_method_9_code (3 : Nat) (Option.none : Option Jvm.ClassFile.FieldType)) ∈ xg_B := xg_at 443 (by decide +kernel) (by decide +kernel)
theorem xw_445 : (Jvm.Cond.methodLink "ContextUnfolder$BlockReader" (93 : Nat) ({ cls := "ContextUnfolder$LetterReader", name := "stretchIsOver", desc := "()Z" } : Jvm.MethodName)) ∈ xg_B := xg_at 445 (by decide +kernel) (by decide +kernel)
theorem xw_446 : (Jvm.Cond.instanceMethod ({ cls := "ContextUnfolder$LetterReader", name := "stretchIsOver", desc := "()Z" } : Jvm.MethodName)) ∈ xg_B := xg_at 446 (by decide +kernel) (by decide +kernel)
theorem xw_447 : (Jvm.Cond.selects "ContextUnfolder$LetterReader" ({ cls := "ContextUnfolder$LetterReader", name := "stretchIsOver", desc := "()Z" } : Jvm.MethodName) ({ cls := "ContextUnfolder$LetterReader", name := "stretchIsOver", desc := "()Z" } : Jvm.MethodName)) ∈ xg_B := xg_at 447 (by decide +kernel) (by decide +kernel)
theorem xw_448 : (Jvm.Cond.code ({ cls := "ContextUnfolder$LetterReader", name := "stretchIsOver", desc := "()Z" } : Jvm.MethodName) prog_4_method_4_code (1 : Nat) (Option.some Jvm.ClassFile.FieldType.boolean)) ∈ xg_B := xg_at 448 (by decide +kernel) (by decide +kernel)
theorem xw_449 : (Jvm.Cond.methodLink "ContextUnfolder$BlockReader" (97 : Nat) ({ cls := "ContextUnfolder$LetterReader", name := "readStretch", desc := "(LContextUnfolder$Stream;)V" } : Jvm.MethodName)) ∈ xg_B := xg_at 449 (by decide +kernel) (by decide +kernel)
theorem xw_450 : (Jvm.Cond.instanceMethod ({ cls := "ContextUnfolder$LetterReader", name := "readStretch", desc := "(LContextUnfolder$Stream;)V" } : Jvm.MethodName)) ∈ xg_B := xg_at 450 (by decide +kernel) (by decide +kernel)
theorem xw_451 : (Jvm.Cond.selects "ContextUnfolder$LetterReader" ({ cls := "ContextUnfolder$LetterReader", name := "readStretch", desc := "(LContextUnfolder$Stream;)V" } : Jvm.MethodName) ({ cls := "ContextUnfolder$LetterReader", name := "readStretch", desc := "(LContextUnfolder$Stream;)V" } : Jvm.MethodName)) ∈ xg_B := xg_at 451 (by decide +kernel) (by decide +kernel)
theorem xw_452 : (Jvm.Cond.code ({ cls := "ContextUnfolder$LetterReader", name := "readStretch", desc := "(LContextUnfolder$Stream;)V" } : Jvm.MethodName) prog_4_method_5_code (4 : Nat) (Option.none : Option Jvm.ClassFile.FieldType)) ∈ xg_B := xg_at 452 (by decide +kernel) (by decide +kernel)
theorem xw_453 : (Jvm.Cond.methodLink "ContextUnfolder$LetterReader" (69 : Nat) ({ cls := "ContextUnfolder$Code", name := "readSymbol", desc := "(LContextUnfolder$Stream;)I" } : Jvm.MethodName)) ∈ xg_B := xg_at 453 (by decide +kernel) (by decide +kernel)
theorem xw_454 : (Jvm.Cond.methodLink "ContextUnfolder$BlockReader" (100 : Nat) ({ cls := "ContextUnfolder$Output", name := "back", desc := "(I)I" } : Jvm.MethodName)) ∈ xg_B := xg_at 454 (by decide +kernel) (by decide +kernel)
theorem xw_455 : (Jvm.Cond.instanceMethod ({ cls := "ContextUnfolder$Output", name := "back", desc := "(I)I" } : Jvm.MethodName)) ∈ xg_B := xg_at 455 (by decide +kernel) (by decide +kernel)
theorem xw_456 : (Jvm.Cond.selects "ContextUnfolder$Output" ({ cls := "ContextUnfolder$Output", name := "back", desc := "(I)I" } : Jvm.MethodName) ({ cls := "ContextUnfolder$Output", name := "back", desc := "(I)I" } : Jvm.MethodName)) ∈ xg_B := xg_at 456 (by decide +kernel) (by decide +kernel)
theorem xw_457 : (Jvm.Cond.code ({ cls := "ContextUnfolder$Output", name := "back", desc := "(I)I" } : Jvm.MethodName) prog_5_method_4_code (2 : Nat) (Option.some Jvm.ClassFile.FieldType.int)) ∈ xg_B := xg_at 457 (by decide +kernel) (by decide +kernel)
theorem xw_458 : (Jvm.Cond.methodLink "ContextUnfolder$BlockReader" (103 : Nat) ({ cls := "ContextUnfolder$LetterReader", name := "readLetter", desc := "(LContextUnfolder$Stream;II)I" } : Jvm.MethodName)) ∈ xg_B := xg_at 458 (by decide +kernel) (by decide +kernel)
theorem xw_459 : (Jvm.Cond.instanceMethod ({ cls := "ContextUnfolder$LetterReader", name := "readLetter", desc := "(LContextUnfolder$Stream;II)I" } : Jvm.MethodName)) ∈ xg_B := xg_at 459 (by decide +kernel) (by decide +kernel)
theorem xw_460 : (Jvm.Cond.selects "ContextUnfolder$LetterReader" ({ cls := "ContextUnfolder$LetterReader", name := "readLetter", desc := "(LContextUnfolder$Stream;II)I" } : Jvm.MethodName) ({ cls := "ContextUnfolder$LetterReader", name := "readLetter", desc := "(LContextUnfolder$Stream;II)I" } : Jvm.MethodName)) ∈ xg_B := xg_at 460 (by decide +kernel) (by decide +kernel)
theorem xw_461 : (Jvm.Cond.code ({ cls := "ContextUnfolder$LetterReader", name := "readLetter", desc := "(LContextUnfolder$Stream;II)I" } : Jvm.MethodName) prog_4_method_6_code (5 : Nat) (Option.some Jvm.ClassFile.FieldType.int)) ∈ xg_B := xg_at 461 (by decide +kernel) (by decide +kernel)
theorem xw_462 : (Jvm.Cond.methodLink "ContextUnfolder$LetterReader" (73 : Nat) ({ cls := "ContextUnfolder$LetterReader", name := "context", desc := "(III)I" } : Jvm.MethodName)) ∈ xg_B := xg_at 462 (by decide +kernel) (by decide +kernel)
theorem xw_463 : (Jvm.Cond.static ({ cls := "ContextUnfolder$LetterReader", name := "context", desc := "(III)I" } : Jvm.MethodName)) ∈ xg_B := xg_at 463 (by decide +kernel) (by decide +kernel)
theorem xw_464 : (Jvm.Cond.code ({ cls := "ContextUnfolder$LetterReader", name := "context", desc := "(III)I" } : Jvm.MethodName) prog_4_method_9_code (3 : Nat) (Option.some Jvm.ClassFile.FieldType.int)) ∈ xg_B := xg_at 464 (by decide +kernel) (by decide +kernel)
theorem xw_465 : (Jvm.Cond.methodLink "ContextUnfolder$BlockReader" (107 : Nat) ({ cls := "ContextUnfolder$BlockReader", name := "readPiece", desc := "(LContextUnfolder$Stream;LContextUnfolder$Output;I)V" } : Jvm.MethodName)) ∈ xg_B := xg_at 465 (by decide +kernel) (by decide +kernel)
theorem xw_467 : (Jvm.Cond.instanceMethod ({ cls := "ContextUnfolder$BlockReader", name := "readPiece", desc := "(LContextUnfolder$Stream;LContextUnfolder$Output;I)V" } : Jvm.MethodName)) ∈ xg_B := xg_at 467 (by decide +kernel) (by decide +kernel)
theorem xw_468 : (Jvm.Cond.code ({ cls := "ContextUnfolder$BlockReader", name := "readPiece", desc := "(LContextUnfolder$Stream;LContextUnfolder$Output;I)V" } : Jvm.MethodName) prog_2_method_6_code (7 : Nat) (Option.none : Option Jvm.ClassFile.FieldType)) ∈ xg_B := xg_at 468 (by decide +kernel) (by decide +kernel)
theorem xw_469 : (Jvm.Cond.methodLink "ContextUnfolder$BlockReader" (111 : Nat) ({ cls := "ContextUnfolder$BlockReader", name := "readDistance", desc := "(LContextUnfolder$Stream;I)I" } : Jvm.MethodName)) ∈ xg_B := xg_at 469 (by decide +kernel) (by decide +kernel)
theorem xw_470 : (Jvm.Cond.static ({ cls := "ContextUnfolder$BlockReader", name := "readDistance", desc := "(LContextUnfolder$Stream;I)I" } : Jvm.MethodName)) ∈ xg_B := xg_at 470 (by decide +kernel) (by decide +kernel)
theorem xw_471 : (Jvm.Cond.code ({ cls := "ContextUnfolder$BlockReader", name := "readDistance", desc := "(LContextUnfolder$Stream;I)I" } : Jvm.MethodName) prog_2_method_7_code (3 : Nat) (Option.some Jvm.ClassFile.FieldType.int)) ∈ xg_B := xg_at 471 (by decide +kernel) (by decide +kernel)
theorem xw_472 : (Jvm.Cond.methodLink "ContextUnfolder$BlockReader" (115 : Nat) ({ cls := "ContextUnfolder$BlockReader", name := "addWord", desc := "(LContextUnfolder$Output;II)V" } : Jvm.MethodName)) ∈ xg_B := xg_at 472 (by decide +kernel) (by decide +kernel)
theorem xw_474 : (Jvm.Cond.instanceMethod ({ cls := "ContextUnfolder$BlockReader", name := "addWord", desc := "(LContextUnfolder$Output;II)V" } : Jvm.MethodName)) ∈ xg_B := xg_at 474 (by decide +kernel) (by decide +kernel)
theorem xw_475 : (Jvm.Cond.code ({ cls := "ContextUnfolder$BlockReader", name := "addWord", desc := "(LContextUnfolder$Output;II)V" } : Jvm.MethodName) prog_2_method_8_code (11 : Nat) (Option.none : Option Jvm.ClassFile.FieldType)) ∈ xg_B := xg_at 475 (by decide +kernel) (by decide +kernel)
theorem xw_477 : (Jvm.Cond.methodLink "ContextUnfolder$BlockReader" (119 : Nat) ({ cls := "ContextUnfolder$Output", name := "remember", desc := "(I)V" } : Jvm.MethodName)) ∈ xg_B := xg_at 477 (by decide +kernel) (by decide +kernel)
theorem xw_478 : (Jvm.Cond.instanceMethod ({ cls := "ContextUnfolder$Output", name := "remember", desc := "(I)V" } : Jvm.MethodName)) ∈ xg_B := xg_at 478 (by decide +kernel) (by decide +kernel)
theorem xw_479 : (Jvm.Cond.selects "ContextUnfolder$Output" ({ cls := "ContextUnfolder$Output", name := "remember", desc := "(I)V" } : Jvm.MethodName) ({ cls := "ContextUnfolder$Output", name := "remember", desc := "(I)V" } : Jvm.MethodName)) ∈ xg_B := xg_at 479 (by decide +kernel) (by decide +kernel)
theorem xw_480 : (Jvm.Cond.code ({ cls := "ContextUnfolder$Output", name := "remember", desc := "(I)V" } : Jvm.MethodName) prog_5_method_5_code (3 : Nat) (Option.none : Option Jvm.ClassFile.FieldType)) ∈ xg_B := xg_at 480 (by decide +kernel) (by decide +kernel)
theorem xw_503 : (Jvm.Cond.methodLink "ContextUnfolderModel" (44 : Nat) ({ cls := "ContextUnfolderModel", name := "first", desc := "([I)V" } : Jvm.MethodName)) ∈ xg_B := xg_at 503 (by decide +kernel) (by decide +kernel)
theorem xw_505 : (Jvm.Cond.instanceMethod ({ cls := "ContextUnfolderModel", name := "first", desc := "([I)V" } : Jvm.MethodName)) ∈ xg_B := xg_at 505 (by decide +kernel) (by decide +kernel)
theorem xw_506 : (Jvm.Cond.code ({ cls := "ContextUnfolderModel", name := "first", desc := "([I)V" } : Jvm.MethodName) prog_8_method_3_code (3 : Nat) (Option.none : Option Jvm.ClassFile.FieldType)) ∈ xg_B := xg_at 506 (by decide +kernel) (by decide +kernel)
theorem xw_507 : (Jvm.Cond.fieldLink "ContextUnfolderModel" (48 : Nat) "ContextUnfolderModel" "thrown" "I") ∈ xg_B := xg_at 507 (by decide +kernel) (by decide +kernel)
theorem xw_508 : (Jvm.Cond.fieldLink "ContextUnfolderModel" (52 : Nat) "ContextUnfolderModel" "length" "I") ∈ xg_B := xg_at 508 (by decide +kernel) (by decide +kernel)
theorem xw_509 : (Jvm.Cond.fieldLink "ContextUnfolderModel" (7 : Nat) "ContextUnfolderModel" "stream" "[Z") ∈ xg_B := xg_at 509 (by decide +kernel) (by decide +kernel)
theorem xw_510 : (Jvm.Cond.fieldLink "ContextUnfolderModel" (63 : Nat) "ContextUnfolderModel" "at" "I") ∈ xg_B := xg_at 510 (by decide +kernel) (by decide +kernel)
theorem xw_511 : (Jvm.Cond.fieldLink "ContextUnfolderModel" (59 : Nat) "ContextUnfolderModel" "wrong" "Z") ∈ xg_B := xg_at 511 (by decide +kernel) (by decide +kernel)
theorem xw_512 : (Jvm.Cond.fieldLink "ContextUnfolderModel" (145 : Nat) "ContextUnfolderModel" "letters" "I") ∈ xg_B := xg_at 512 (by decide +kernel) (by decide +kernel)
theorem xw_513 : (Jvm.Cond.fieldLink "ContextUnfolderModel" (13 : Nat) "ContextUnfolderModel" "output" "[I") ∈ xg_B := xg_at 513 (by decide +kernel) (by decide +kernel)
theorem xw_514 : (Jvm.Cond.fieldLink "ContextUnfolderModel" (85 : Nat) "ContextUnfolderModel" "made" "I") ∈ xg_B := xg_at 514 (by decide +kernel) (by decide +kernel)
theorem xw_515 : (Jvm.Cond.fieldLink "ContextUnfolderModel" (17 : Nat) "ContextUnfolderModel" "making" "[I") ∈ xg_B := xg_at 515 (by decide +kernel) (by decide +kernel)
theorem xw_516 : (Jvm.Cond.fieldLink "ContextUnfolderModel" (20 : Nat) "ContextUnfolderModel" "counts" "[I") ∈ xg_B := xg_at 516 (by decide +kernel) (by decide +kernel)
theorem xw_517 : (Jvm.Cond.fieldLink "ContextUnfolderModel" (23 : Nat) "ContextUnfolderModel" "counting" "[I") ∈ xg_B := xg_at 517 (by decide +kernel) (by decide +kernel)
theorem xw_518 : (Jvm.Cond.fieldLink "ContextUnfolderModel" (26 : Nat) "ContextUnfolderModel" "lengths" "[I") ∈ xg_B := xg_at 518 (by decide +kernel) (by decide +kernel)
theorem xw_519 : (Jvm.Cond.fieldLink "ContextUnfolderModel" (29 : Nat) "ContextUnfolderModel" "alone" "[I") ∈ xg_B := xg_at 519 (by decide +kernel) (by decide +kernel)
theorem xw_520 : (Jvm.Cond.fieldLink "ContextUnfolderModel" (32 : Nat) "ContextUnfolderModel" "simple" "[I") ∈ xg_B := xg_at 520 (by decide +kernel) (by decide +kernel)
theorem xw_521 : (Jvm.Cond.fieldLink "ContextUnfolderModel" (88 : Nat) "ContextUnfolderModel" "types" "I") ∈ xg_B := xg_at 521 (by decide +kernel) (by decide +kernel)
theorem xw_522 : (Jvm.Cond.fieldLink "ContextUnfolderModel" (91 : Nat) "ContextUnfolderModel" "type" "I") ∈ xg_B := xg_at 522 (by decide +kernel) (by decide +kernel)
theorem xw_523 : (Jvm.Cond.fieldLink "ContextUnfolderModel" (94 : Nat) "ContextUnfolderModel" "before" "I") ∈ xg_B := xg_at 523 (by decide +kernel) (by decide +kernel)
theorem xw_524 : (Jvm.Cond.fieldLink "ContextUnfolderModel" (100 : Nat) "ContextUnfolderModel" "stretch" "I") ∈ xg_B := xg_at 524 (by decide +kernel) (by decide +kernel)
theorem xw_525 : (Jvm.Cond.fieldLink "ContextUnfolderModel" (35 : Nat) "ContextUnfolderModel" "modes" "[I") ∈ xg_B := xg_at 525 (by decide +kernel) (by decide +kernel)
theorem xw_526 : (Jvm.Cond.fieldLink "ContextUnfolderModel" (38 : Nat) "ContextUnfolderModel" "map" "[I") ∈ xg_B := xg_at 526 (by decide +kernel) (by decide +kernel)
theorem xw_527 : (Jvm.Cond.fieldLink "ContextUnfolderModel" (41 : Nat) "ContextUnfolderModel" "row" "[I") ∈ xg_B := xg_at 527 (by decide +kernel) (by decide +kernel)
theorem xw_583 : (Jvm.Cond.methodLink "ContextUnfolderModel" (55 : Nat) ({ cls := "ContextUnfolderModel", name := "noBit", desc := "(I)Z" } : Jvm.MethodName)) ∈ xg_B := xg_at 583 (by decide +kernel) (by decide +kernel)
theorem xw_585 : (Jvm.Cond.instanceMethod ({ cls := "ContextUnfolderModel", name := "noBit", desc := "(I)Z" } : Jvm.MethodName)) ∈ xg_B := xg_at 585 (by decide +kernel) (by decide +kernel)
theorem xw_586 : (Jvm.Cond.code ({ cls := "ContextUnfolderModel", name := "noBit", desc := "(I)Z" } : Jvm.MethodName) prog_8_method_5_code (2 : Nat) (Option.some Jvm.ClassFile.FieldType.boolean)) ∈ xg_B := xg_at 586 (by decide +kernel) (by decide +kernel)
theorem xw_599 : (Jvm.Cond.methodLink "ContextUnfolderModel" (141 : Nat) ({ cls := "ContextUnfolderModel", name := "block", desc := "()Z" } : Jvm.MethodName)) ∈ xg_B := xg_at 599 (by decide +kernel) (by decide +kernel)
theorem xw_601 : (Jvm.Cond.instanceMethod ({ cls := "ContextUnfolderModel", name := "block", desc := "()Z" } : Jvm.MethodName)) ∈ xg_B := xg_at 601 (by decide +kernel) (by decide +kernel)
theorem xw_602 : (Jvm.Cond.code ({ cls := "ContextUnfolderModel", name := "block", desc := "()Z" } : Jvm.MethodName) prog_8_method_27_code (5 : Nat) (Option.some Jvm.ClassFile.FieldType.boolean)) ∈ xg_B := xg_at 602 (by decide +kernel) (by decide +kernel)
theorem xw_603 : (Jvm.Cond.methodLink "ContextUnfolderModel" (66 : Nat) ({ cls := "ContextUnfolderModel", name := "number", desc := "(I)I" } : Jvm.MethodName)) ∈ xg_B := xg_at 603 (by decide +kernel) (by decide +kernel)
theorem xw_605 : (Jvm.Cond.instanceMethod ({ cls := "ContextUnfolderModel", name := "number", desc := "(I)I" } : Jvm.MethodName)) ∈ xg_B := xg_at 605 (by decide +kernel) (by decide +kernel)
theorem xw_606 : (Jvm.Cond.code ({ cls := "ContextUnfolderModel", name := "number", desc := "(I)I" } : Jvm.MethodName) prog_8_method_9_code (4 : Nat) (Option.some Jvm.ClassFile.FieldType.int)) ∈ xg_B := xg_at 606 (by decide +kernel) (by decide +kernel)
theorem xw_607 : (Jvm.Cond.methodLink "ContextUnfolderModel" (132 : Nat) ({ cls := "ContextUnfolderModel", name := "plain", desc := "(I)V" } : Jvm.MethodName)) ∈ xg_B := xg_at 607 (by decide +kernel) (by decide +kernel)
theorem xw_609 : (Jvm.Cond.instanceMethod ({ cls := "ContextUnfolderModel", name := "plain", desc := "(I)V" } : Jvm.MethodName)) ∈ xg_B := xg_at 609 (by decide +kernel) (by decide +kernel)
theorem xw_610 : (Jvm.Cond.code ({ cls := "ContextUnfolderModel", name := "plain", desc := "(I)V" } : Jvm.MethodName) prog_8_method_15_code (3 : Nat) (Option.none : Option Jvm.ClassFile.FieldType)) ∈ xg_B := xg_at 610 (by decide +kernel) (by decide +kernel)
theorem xw_611 : (Jvm.Cond.methodLink "ContextUnfolderModel" (81 : Nat) ({ cls := "ContextUnfolderModel", name := "add", desc := "(I)V" } : Jvm.MethodName)) ∈ xg_B := xg_at 611 (by decide +kernel) (by decide +kernel)
theorem xw_613 : (Jvm.Cond.instanceMethod ({ cls := "ContextUnfolderModel", name := "add", desc := "(I)V" } : Jvm.MethodName)) ∈ xg_B := xg_at 613 (by decide +kernel) (by decide +kernel)
theorem xw_614 : (Jvm.Cond.code ({ cls := "ContextUnfolderModel", name := "add", desc := "(I)V" } : Jvm.MethodName) prog_8_method_16_code (2 : Nat) (Option.none : Option Jvm.ClassFile.FieldType)) ∈ xg_B := xg_at 614 (by decide +kernel) (by decide +kernel)
theorem xw_615 : (Jvm.Cond.methodLink "ContextUnfolderModel" (135 : Nat) ({ cls := "ContextUnfolderModel", name := "readHead", desc := "()V" } : Jvm.MethodName)) ∈ xg_B := xg_at 615 (by decide +kernel) (by decide +kernel)
theorem xw_617 : (Jvm.Cond.instanceMethod ({ cls := "ContextUnfolderModel", name := "readHead", desc := "()V" } : Jvm.MethodName)) ∈ xg_B := xg_at 617 (by decide +kernel) (by decide +kernel)
theorem xw_618 : (Jvm.Cond.code ({ cls := "ContextUnfolderModel", name := "readHead", desc := "()V" } : Jvm.MethodName) prog_8_method_18_code (3 : Nat) (Option.none : Option Jvm.ClassFile.FieldType)) ∈ xg_B := xg_at 618 (by decide +kernel) (by decide +kernel)
theorem xw_619 : (Jvm.Cond.methodLink "ContextUnfolderModel" (97 : Nat) ({ cls := "ContextUnfolderModel", name := "readCode", desc := "(II)V" } : Jvm.MethodName)) ∈ xg_B := xg_at 619 (by decide +kernel) (by decide +kernel)
theorem xw_621 : (Jvm.Cond.instanceMethod ({ cls := "ContextUnfolderModel", name := "readCode", desc := "(II)V" } : Jvm.MethodName)) ∈ xg_B := xg_at 621 (by decide +kernel) (by decide +kernel)
theorem xw_622 : (Jvm.Cond.code ({ cls := "ContextUnfolderModel", name := "readCode", desc := "(II)V" } : Jvm.MethodName) prog_8_method_12_code (6 : Nat) (Option.none : Option Jvm.ClassFile.FieldType)) ∈ xg_B := xg_at 622 (by decide +kernel) (by decide +kernel)
theorem xw_623 : (Jvm.Cond.methodLink "ContextUnfolderModel" (73 : Nat) ({ cls := "ContextUnfolderModel", name := "readSimple", desc := "(II)V" } : Jvm.MethodName)) ∈ xg_B := xg_at 623 (by decide +kernel) (by decide +kernel)
theorem xw_625 : (Jvm.Cond.instanceMethod ({ cls := "ContextUnfolderModel", name := "readSimple", desc := "(II)V" } : Jvm.MethodName)) ∈ xg_B := xg_at 625 (by decide +kernel) (by decide +kernel)
theorem xw_626 : (Jvm.Cond.code ({ cls := "ContextUnfolderModel", name := "readSimple", desc := "(II)V" } : Jvm.MethodName) prog_8_method_11_code (7 : Nat) (Option.none : Option Jvm.ClassFile.FieldType)) ∈ xg_B := xg_at 626 (by decide +kernel) (by decide +kernel)
theorem xw_627 : (Jvm.Cond.methodLink "ContextUnfolderModel" (70 : Nat) ({ cls := "ContextUnfolderModel", name := "widthOf", desc := "(I)I" } : Jvm.MethodName)) ∈ xg_B := xg_at 627 (by decide +kernel) (by decide +kernel)
theorem xw_629 : (Jvm.Cond.instanceMethod ({ cls := "ContextUnfolderModel", name := "widthOf", desc := "(I)I" } : Jvm.MethodName)) ∈ xg_B := xg_at 629 (by decide +kernel) (by decide +kernel)
theorem xw_630 : (Jvm.Cond.code ({ cls := "ContextUnfolderModel", name := "widthOf", desc := "(I)I" } : Jvm.MethodName) prog_8_method_10_code (3 : Nat) (Option.some Jvm.ClassFile.FieldType.int)) ∈ xg_B := xg_at 630 (by decide +kernel) (by decide +kernel)
theorem xw_631 : (Jvm.Cond.methodLink "ContextUnfolderModel" (103 : Nat) ({ cls := "ContextUnfolderModel", name := "readMap", desc := "(I)V" } : Jvm.MethodName)) ∈ xg_B := xg_at 631 (by decide +kernel) (by decide +kernel)
theorem xw_633 : (Jvm.Cond.instanceMethod ({ cls := "ContextUnfolderModel", name := "readMap", desc := "(I)V" } : Jvm.MethodName)) ∈ xg_B := xg_at 633 (by decide +kernel) (by decide +kernel)
theorem xw_634 : (Jvm.Cond.code ({ cls := "ContextUnfolderModel", name := "readMap", desc := "(I)V" } : Jvm.MethodName) prog_8_method_17_code (7 : Nat) (Option.none : Option Jvm.ClassFile.FieldType)) ∈ xg_B := xg_at 634 (by decide +kernel) (by decide +kernel)
theorem xw_635 : (Jvm.Cond.methodLink "ContextUnfolderModel" (138 : Nat) ({ cls := "ContextUnfolderModel", name := "commands", desc := "(I)V" } : Jvm.MethodName)) ∈ xg_B := xg_at 635 (by decide +kernel) (by decide +kernel)
theorem xw_637 : (Jvm.Cond.instanceMethod ({ cls := "ContextUnfolderModel", name := "commands", desc := "(I)V" } : Jvm.MethodName)) ∈ xg_B := xg_at 637 (by decide +kernel) (by decide +kernel)
theorem xw_638 : (Jvm.Cond.code ({ cls := "ContextUnfolderModel", name := "commands", desc := "(I)V" } : Jvm.MethodName) prog_8_method_26_code (7 : Nat) (Option.none : Option Jvm.ClassFile.FieldType)) ∈ xg_B := xg_at 638 (by decide +kernel) (by decide +kernel)
theorem xw_639 : (Jvm.Cond.methodLink "ContextUnfolderModel" (106 : Nat) ({ cls := "ContextUnfolderModel", name := "symbol", desc := "(I)I" } : Jvm.MethodName)) ∈ xg_B := xg_at 639 (by decide +kernel) (by decide +kernel)
theorem xw_641 : (Jvm.Cond.instanceMethod ({ cls := "ContextUnfolderModel", name := "symbol", desc := "(I)I" } : Jvm.MethodName)) ∈ xg_B := xg_at 641 (by decide +kernel) (by decide +kernel)
theorem xw_642 : (Jvm.Cond.code ({ cls := "ContextUnfolderModel", name := "symbol", desc := "(I)I" } : Jvm.MethodName) prog_8_method_14_code (5 : Nat) (Option.some Jvm.ClassFile.FieldType.int)) ∈ xg_B := xg_at 642 (by decide +kernel) (by decide +kernel)
theorem xw_643 : (Jvm.Cond.methodLink "ContextUnfolderModel" (77 : Nat) ({ cls := "ContextUnfolderModel", name := "wordOf", desc := "(II)I" } : Jvm.MethodName)) ∈ xg_B := xg_at 643 (by decide +kernel) (by decide +kernel)
theorem xw_645 : (Jvm.Cond.instanceMethod ({ cls := "ContextUnfolderModel", name := "wordOf", desc := "(II)I" } : Jvm.MethodName)) ∈ xg_B := xg_at 645 (by decide +kernel) (by decide +kernel)
theorem xw_646 : (Jvm.Cond.code ({ cls := "ContextUnfolderModel", name := "wordOf", desc := "(II)I" } : Jvm.MethodName) prog_8_method_13_code (7 : Nat) (Option.some Jvm.ClassFile.FieldType.int)) ∈ xg_B := xg_at 646 (by decide +kernel) (by decide +kernel)
theorem xw_647 : (Jvm.Cond.methodLink "ContextUnfolderModel" (123 : Nat) ({ cls := "ContextUnfolderModel", name := "baseOf", desc := "(II)I" } : Jvm.MethodName)) ∈ xg_B := xg_at 647 (by decide +kernel) (by decide +kernel)
theorem xw_649 : (Jvm.Cond.instanceMethod ({ cls := "ContextUnfolderModel", name := "baseOf", desc := "(II)I" } : Jvm.MethodName)) ∈ xg_B := xg_at 649 (by decide +kernel) (by decide +kernel)
theorem xw_650 : (Jvm.Cond.code ({ cls := "ContextUnfolderModel", name := "baseOf", desc := "(II)I" } : Jvm.MethodName) prog_8_method_22_code (3 : Nat) (Option.some Jvm.ClassFile.FieldType.int)) ∈ xg_B := xg_at 650 (by decide +kernel) (by decide +kernel)
theorem xw_651 : (Jvm.Cond.methodLink "ContextUnfolderModel" (126 : Nat) ({ cls := "ContextUnfolderModel", name := "readLetter", desc := "()V" } : Jvm.MethodName)) ∈ xg_B := xg_at 651 (by decide +kernel) (by decide +kernel)
theorem xw_653 : (Jvm.Cond.instanceMethod ({ cls := "ContextUnfolderModel", name := "readLetter", desc := "()V" } : Jvm.MethodName)) ∈ xg_B := xg_at 653 (by decide +kernel) (by decide +kernel)
theorem xw_654 : (Jvm.Cond.code ({ cls := "ContextUnfolderModel", name := "readLetter", desc := "()V" } : Jvm.MethodName) prog_8_method_21_code (1 : Nat) (Option.none : Option Jvm.ClassFile.FieldType)) ∈ xg_B := xg_at 654 (by decide +kernel) (by decide +kernel)
theorem xw_655 : (Jvm.Cond.methodLink "ContextUnfolderModel" (109 : Nat) ({ cls := "ContextUnfolderModel", name := "turn", desc := "()V" } : Jvm.MethodName)) ∈ xg_B := xg_at 655 (by decide +kernel) (by decide +kernel)
theorem xw_657 : (Jvm.Cond.instanceMethod ({ cls := "ContextUnfolderModel", name := "turn", desc := "()V" } : Jvm.MethodName)) ∈ xg_B := xg_at 657 (by decide +kernel) (by decide +kernel)
theorem xw_658 : (Jvm.Cond.code ({ cls := "ContextUnfolderModel", name := "turn", desc := "()V" } : Jvm.MethodName) prog_8_method_19_code (3 : Nat) (Option.none : Option Jvm.ClassFile.FieldType)) ∈ xg_B := xg_at 658 (by decide +kernel) (by decide +kernel)
theorem xw_659 : (Jvm.Cond.methodLink "ContextUnfolderModel" (112 : Nat) ({ cls := "ContextUnfolderModel", name := "context", desc := "()I" } : Jvm.MethodName)) ∈ xg_B := xg_at 659 (by decide +kernel) (by decide +kernel)
theorem xw_661 : (Jvm.Cond.instanceMethod ({ cls := "ContextUnfolderModel", name := "context", desc := "()I" } : Jvm.MethodName)) ∈ xg_B := xg_at 661 (by decide +kernel) (by decide +kernel)
theorem xw_662 : (Jvm.Cond.code ({ cls := "ContextUnfolderModel", name := "context", desc := "()I" } : Jvm.MethodName) prog_8_method_20_code (3 : Nat) (Option.some Jvm.ClassFile.FieldType.int)) ∈ xg_B := xg_at 662 (by decide +kernel) (by decide +kernel)
theorem xw_663 : (Jvm.Cond.methodLink "ContextUnfolderModel" (129 : Nat) ({ cls := "ContextUnfolderModel", name := "piece", desc := "(II)I" } : Jvm.MethodName)) ∈ xg_B := xg_at 663 (by decide +kernel) (by decide +kernel)
theorem xw_665 : (Jvm.Cond.instanceMethod ({ cls := "ContextUnfolderModel", name := "piece", desc := "(II)I" } : Jvm.MethodName)) ∈ xg_B := xg_at 665 (by decide +kernel) (by decide +kernel)
theorem xw_666 : (Jvm.Cond.code ({ cls := "ContextUnfolderModel", name := "piece", desc := "(II)I" } : Jvm.MethodName) prog_8_method_25_code (7 : Nat) (Option.some Jvm.ClassFile.FieldType.int)) ∈ xg_B := xg_at 666 (by decide +kernel) (by decide +kernel)
theorem xw_667 : (Jvm.Cond.methodLink "ContextUnfolderModel" (120 : Nat) ({ cls := "ContextUnfolderModel", name := "dictionary", desc := "(III)I" } : Jvm.MethodName)) ∈ xg_B := xg_at 667 (by decide +kernel) (by decide +kernel)
theorem xw_669 : (Jvm.Cond.instanceMethod ({ cls := "ContextUnfolderModel", name := "dictionary", desc := "(III)I" } : Jvm.MethodName)) ∈ xg_B := xg_at 669 (by decide +kernel) (by decide +kernel)
theorem xw_670 : (Jvm.Cond.code ({ cls := "ContextUnfolderModel", name := "dictionary", desc := "(III)I" } : Jvm.MethodName) prog_8_method_24_code (10 : Nat) (Option.some Jvm.ClassFile.FieldType.int)) ∈ xg_B := xg_at 670 (by decide +kernel) (by decide +kernel)
theorem xw_671 : (Jvm.Cond.methodLink "ContextUnfolderModel" (116 : Nat) ({ cls := "ContextUnfolderModel", name := "wordLetter", desc := "(III)I" } : Jvm.MethodName)) ∈ xg_B := xg_at 671 (by decide +kernel) (by decide +kernel)
theorem xw_673 : (Jvm.Cond.instanceMethod ({ cls := "ContextUnfolderModel", name := "wordLetter", desc := "(III)I" } : Jvm.MethodName)) ∈ xg_B := xg_at 673 (by decide +kernel) (by decide +kernel)
theorem xw_674 : (Jvm.Cond.code ({ cls := "ContextUnfolderModel", name := "wordLetter", desc := "(III)I" } : Jvm.MethodName) prog_8_method_23_code (4 : Nat) (Option.some Jvm.ClassFile.FieldType.int)) ∈ xg_B := xg_at 674 (by decide +kernel) (by decide +kernel)
theorem xu_X4 : ∀ w ∈ u_ws RX4 TX4 3, w ∈ xg_B := by
  show ∀ w ∈ [u_lay RX4 TX4 0, u_lay RX4 TX4 1, u_lay RX4 TX4 2], w ∈ xg_B
  exact List.forall_mem_cons.mpr ⟨xg_at 69 (by decide +kernel) (by decide +kernel), List.forall_mem_cons.mpr ⟨xg_at 71 (by decide +kernel) (by decide +kernel), List.forall_mem_cons.mpr ⟨xg_at 73 (by decide +kernel) (by decide +kernel), fun _ h => absurd h List.not_mem_nil⟩⟩⟩
theorem xu_X3 : ∀ w ∈ u_ws RX3 TX3 3, w ∈ xg_B := by
  show ∀ w ∈ [u_lay RX3 TX3 0, u_lay RX3 TX3 1, u_lay RX3 TX3 2], w ∈ xg_B
  exact List.forall_mem_cons.mpr ⟨xg_at 173 (by decide +kernel) (by decide +kernel), List.forall_mem_cons.mpr ⟨xg_at 175 (by decide +kernel) (by decide +kernel), List.forall_mem_cons.mpr ⟨xg_at 177 (by decide +kernel) (by decide +kernel), fun _ h => absurd h List.not_mem_nil⟩⟩⟩
theorem xu_X1 : ∀ w ∈ u_ws RX1 TX1 3, w ∈ xg_B := by
  show ∀ w ∈ [u_lay RX1 TX1 0, u_lay RX1 TX1 1, u_lay RX1 TX1 2], w ∈ xg_B
  exact List.forall_mem_cons.mpr ⟨xg_at 98 (by decide +kernel) (by decide +kernel), List.forall_mem_cons.mpr ⟨xg_at 100 (by decide +kernel) (by decide +kernel), List.forall_mem_cons.mpr ⟨xg_at 102 (by decide +kernel) (by decide +kernel), fun _ h => absurd h List.not_mem_nil⟩⟩⟩
theorem xu_X2 : ∀ w ∈ u_ws RX2 TX2 9, w ∈ xg_B := by
  show ∀ w ∈ [u_lay RX2 TX2 0, u_lay RX2 TX2 1, u_lay RX2 TX2 2, u_lay RX2 TX2 3, u_lay RX2 TX2 4, u_lay RX2 TX2 5, u_lay RX2 TX2 6, u_lay RX2 TX2 7, u_lay RX2 TX2 8], w ∈ xg_B
  exact List.forall_mem_cons.mpr ⟨xg_at 116 (by decide +kernel) (by decide +kernel), List.forall_mem_cons.mpr ⟨xg_at 118 (by decide +kernel) (by decide +kernel), List.forall_mem_cons.mpr ⟨xg_at 120 (by decide +kernel) (by decide +kernel), List.forall_mem_cons.mpr ⟨xg_at 122 (by decide +kernel) (by decide +kernel), List.forall_mem_cons.mpr ⟨xg_at 124 (by decide +kernel) (by decide +kernel), List.forall_mem_cons.mpr ⟨xg_at 126 (by decide +kernel) (by decide +kernel), List.forall_mem_cons.mpr ⟨xg_at 128 (by decide +kernel) (by decide +kernel), List.forall_mem_cons.mpr ⟨xg_at 130 (by decide +kernel) (by decide +kernel), List.forall_mem_cons.mpr ⟨xg_at 132 (by decide +kernel) (by decide +kernel), fun _ h => absurd h List.not_mem_nil⟩⟩⟩⟩⟩⟩⟩⟩⟩
theorem xu_X0 : ∀ w ∈ u_ws RX0 TX0 4, w ∈ xg_B := by
  show ∀ w ∈ [u_lay RX0 TX0 0, u_lay RX0 TX0 1, u_lay RX0 TX0 2, u_lay RX0 TX0 3], w ∈ xg_B
  exact List.forall_mem_cons.mpr ⟨xg_at 141 (by decide +kernel) (by decide +kernel), List.forall_mem_cons.mpr ⟨xg_at 143 (by decide +kernel) (by decide +kernel), List.forall_mem_cons.mpr ⟨xg_at 145 (by decide +kernel) (by decide +kernel), List.forall_mem_cons.mpr ⟨xg_at 147 (by decide +kernel) (by decide +kernel), fun _ h => absurd h List.not_mem_nil⟩⟩⟩⟩
theorem xu_X5 : ∀ w ∈ u_ws RX5 TX5 4, w ∈ xg_B := by
  show ∀ w ∈ [u_lay RX5 TX5 0, u_lay RX5 TX5 1, u_lay RX5 TX5 2, u_lay RX5 TX5 3], w ∈ xg_B
  exact List.forall_mem_cons.mpr ⟨xg_at 184 (by decide +kernel) (by decide +kernel), List.forall_mem_cons.mpr ⟨xg_at 186 (by decide +kernel) (by decide +kernel), List.forall_mem_cons.mpr ⟨xg_at 188 (by decide +kernel) (by decide +kernel), List.forall_mem_cons.mpr ⟨xg_at 190 (by decide +kernel) (by decide +kernel), fun _ h => absurd h List.not_mem_nil⟩⟩⟩⟩
theorem xu_X6 : ∀ w ∈ u_ws RX6 TX6 21, w ∈ xg_B := by
  show ∀ w ∈ [u_lay RX6 TX6 0, u_lay RX6 TX6 1, u_lay RX6 TX6 2, u_lay RX6 TX6 3, u_lay RX6 TX6 4, u_lay RX6 TX6 5, u_lay RX6 TX6 6, u_lay RX6 TX6 7, u_lay RX6 TX6 8, u_lay RX6 TX6 9, u_lay RX6 TX6 10, u_lay RX6 TX6 11, u_lay RX6 TX6 12, u_lay RX6 TX6 13, u_lay RX6 TX6 14, u_lay RX6 TX6 15, u_lay RX6 TX6 16, u_lay RX6 TX6 17, u_lay RX6 TX6 18, u_lay RX6 TX6 19, u_lay RX6 TX6 20], w ∈ xg_B
  exact List.forall_mem_cons.mpr ⟨xg_at 528 (by decide +kernel) (by decide +kernel), List.forall_mem_cons.mpr ⟨xg_at 530 (by decide +kernel) (by decide +kernel), List.forall_mem_cons.mpr ⟨xg_at 532 (by decide +kernel) (by decide +kernel), List.forall_mem_cons.mpr ⟨xg_at 534 (by decide +kernel) (by decide +kernel), List.forall_mem_cons.mpr ⟨xg_at 536 (by decide +kernel) (by decide +kernel), List.forall_mem_cons.mpr ⟨xg_at 538 (by decide +kernel) (by decide +kernel), List.forall_mem_cons.mpr ⟨xg_at 540 (by decide +kernel) (by decide +kernel), List.forall_mem_cons.mpr ⟨xg_at 542 (by decide +kernel) (by decide +kernel), List.forall_mem_cons.mpr ⟨xg_at 544 (by decide +kernel) (by decide +kernel), List.forall_mem_cons.mpr ⟨xg_at 546 (by decide +kernel) (by decide +kernel), List.forall_mem_cons.mpr ⟨xg_at 548 (by decide +kernel) (by decide +kernel), List.forall_mem_cons.mpr ⟨xg_at 550 (by decide +kernel) (by decide +kernel), List.forall_mem_cons.mpr ⟨xg_at 552 (by decide +kernel) (by decide +kernel), List.forall_mem_cons.mpr ⟨xg_at 554 (by decide +kernel) (by decide +kernel), List.forall_mem_cons.mpr ⟨xg_at 556 (by decide +kernel) (by decide +kernel), List.forall_mem_cons.mpr ⟨xg_at 558 (by decide +kernel) (by decide +kernel), List.forall_mem_cons.mpr ⟨xg_at 560 (by decide +kernel) (by decide +kernel), List.forall_mem_cons.mpr ⟨xg_at 562 (by decide +kernel) (by decide +kernel), List.forall_mem_cons.mpr ⟨xg_at 564 (by decide +kernel) (by decide +kernel), List.forall_mem_cons.mpr ⟨xg_at 566 (by decide +kernel) (by decide +kernel), List.forall_mem_cons.mpr ⟨xg_at 568 (by decide +kernel) (by decide +kernel), fun _ h => absurd h List.not_mem_nil⟩⟩⟩⟩⟩⟩⟩⟩⟩⟩⟩⟩⟩⟩⟩⟩⟩⟩⟩⟩⟩
theorem xat_X4_26 : ∀ w ∈ vx_atS RX4 26 "java/lang/IllegalArgumentException" ["java/lang/RuntimeException", "java/lang/Exception"], w ∈ xg_B := by decide +kernel
theorem xgd_X4_26 : ∀ w ∈ Cond.classLink RX4 22 "java/lang/IllegalArgumentException" :: Cond.initialized "java/lang/IllegalArgumentException" :: vx_atS RX4 26 "java/lang/IllegalArgumentException" ["java/lang/RuntimeException", "java/lang/Exception"], vx_ot w = true := by decide +kernel
theorem xat_X1_46 : ∀ w ∈ vx_atS RX1 46 "java/lang/IllegalArgumentException" ["java/lang/RuntimeException", "java/lang/Exception"], w ∈ xg_B := by decide +kernel
theorem xgd_X1_46 : ∀ w ∈ Cond.classLink RX1 42 "java/lang/IllegalArgumentException" :: Cond.initialized "java/lang/IllegalArgumentException" :: vx_atS RX1 46 "java/lang/IllegalArgumentException" ["java/lang/RuntimeException", "java/lang/Exception"], vx_ot w = true := by decide +kernel
theorem xat_X2_44 : ∀ w ∈ vx_atS RX2 44 "java/lang/IllegalArgumentException" ["java/lang/RuntimeException", "java/lang/Exception"], w ∈ xg_B := by decide +kernel
theorem xgd_X2_44 : ∀ w ∈ Cond.classLink RX2 40 "java/lang/IllegalArgumentException" :: Cond.initialized "java/lang/IllegalArgumentException" :: vx_atS RX2 44 "java/lang/IllegalArgumentException" ["java/lang/RuntimeException", "java/lang/Exception"], vx_ot w = true := by decide +kernel
theorem xat_X0_51 : ∀ w ∈ vx_atS RX0 51 "java/lang/IllegalArgumentException" ["java/lang/RuntimeException", "java/lang/Exception"], w ∈ xg_B := by decide +kernel
theorem xgd_X0_51 : ∀ w ∈ Cond.classLink RX0 47 "java/lang/IllegalArgumentException" :: Cond.initialized "java/lang/IllegalArgumentException" :: vx_atS RX0 51 "java/lang/IllegalArgumentException" ["java/lang/RuntimeException", "java/lang/Exception"], vx_ot w = true := by decide +kernel
theorem xat_X5_50 : ∀ w ∈ vx_atS RX5 50 "java/lang/IllegalStateException" ["java/lang/RuntimeException", "java/lang/Exception"], w ∈ xg_B := by decide +kernel
theorem xgd_X5_50 : ∀ w ∈ Cond.classLink RX5 46 "java/lang/IllegalStateException" :: Cond.initialized "java/lang/IllegalStateException" :: vx_atS RX5 50 "java/lang/IllegalStateException" ["java/lang/RuntimeException", "java/lang/Exception"], vx_ot w = true := by decide +kernel
theorem xat_X5_37 : ∀ w ∈ vx_atS RX5 37 "java/lang/IllegalArgumentException" ["java/lang/RuntimeException", "java/lang/Exception"], w ∈ xg_B := by decide +kernel
theorem xgd_X5_37 : ∀ w ∈ Cond.classLink RX5 33 "java/lang/IllegalArgumentException" :: Cond.initialized "java/lang/IllegalArgumentException" :: vx_atS RX5 37 "java/lang/IllegalArgumentException" ["java/lang/RuntimeException", "java/lang/Exception"], vx_ot w = true := by decide +kernel
theorem xat_X5_59 : ∀ w ∈ vx_atS RX5 59 "java/lang/IndexOutOfBoundsException" ["java/lang/RuntimeException", "java/lang/Exception"], w ∈ xg_B := by decide +kernel
theorem xgd_X5_59 : ∀ w ∈ Cond.classLink RX5 55 "java/lang/IndexOutOfBoundsException" :: Cond.initialized "java/lang/IndexOutOfBoundsException" :: vx_atS RX5 59 "java/lang/IndexOutOfBoundsException" ["java/lang/RuntimeException", "java/lang/Exception"], vx_ot w = true := by decide +kernel
theorem xd_X4_readNumber : yX4_readNumber.cls ≠ "java/lang/invoke/MethodHandle" ∧ yX4_readNumber.cls ≠ "java/lang/invoke/VarHandle" ∧ (parseMethodDescriptor yX4_readNumber.desc).map (fun d => d.parameters.length) = some 1 := by decide +kernel
theorem xd_X1_symbolBits : yX1_symbolBits.cls ≠ "java/lang/invoke/MethodHandle" ∧ yX1_symbolBits.cls ≠ "java/lang/invoke/VarHandle" ∧ (parseMethodDescriptor yX1_symbolBits.desc).map (fun d => d.parameters.length) = some 1 := by decide +kernel
theorem xd_J7_fill_53178 : yJ7_fill_53178.cls ≠ "java/lang/invoke/MethodHandle" ∧ yJ7_fill_53178.cls ≠ "java/lang/invoke/VarHandle" ∧ (parseMethodDescriptor yJ7_fill_53178.desc).map (fun d => d.parameters.length) = some 2 := by decide +kernel
theorem xd_X1_readLengths : yX1_readLengths.cls ≠ "java/lang/invoke/MethodHandle" ∧ yX1_readLengths.cls ≠ "java/lang/invoke/VarHandle" ∧ (parseMethodDescriptor yX1_readLengths.desc).map (fun d => d.parameters.length) = some 2 := by decide +kernel
theorem xd_X1_readSimple : yX1_readSimple.cls ≠ "java/lang/invoke/MethodHandle" ∧ yX1_readSimple.cls ≠ "java/lang/invoke/VarHandle" ∧ (parseMethodDescriptor yX1_readSimple.desc).map (fun d => d.parameters.length) = some 2 := by decide +kernel
theorem xd_X1_orderSymbols : yX1_orderSymbols.cls ≠ "java/lang/invoke/MethodHandle" ∧ yX1_orderSymbols.cls ≠ "java/lang/invoke/VarHandle" ∧ (parseMethodDescriptor yX1_orderSymbols.desc).map (fun d => d.parameters.length) = some 1 := by decide +kernel
theorem xd_X1_readSymbol : yX1_readSymbol.cls ≠ "java/lang/invoke/MethodHandle" ∧ yX1_readSymbol.cls ≠ "java/lang/invoke/VarHandle" ∧ (parseMethodDescriptor yX1_readSymbol.desc).map (fun d => d.parameters.length) = some 1 := by decide +kernel
theorem xd_X2_replacePlaces : yX2_replacePlaces.cls ≠ "java/lang/invoke/MethodHandle" ∧ yX2_replacePlaces.cls ≠ "java/lang/invoke/VarHandle" ∧ (parseMethodDescriptor yX2_replacePlaces.desc).map (fun d => d.parameters.length) = some 1 := by decide +kernel
theorem xd_X1_readCode : yX1_readCode.cls ≠ "java/lang/invoke/MethodHandle" ∧ yX1_readCode.cls ≠ "java/lang/invoke/VarHandle" ∧ (parseMethodDescriptor yX1_readCode.desc).map (fun d => d.parameters.length) = some 2 := by decide +kernel
theorem xd_X2_context : yX2_context.cls ≠ "java/lang/invoke/MethodHandle" ∧ yX2_context.cls ≠ "java/lang/invoke/VarHandle" ∧ (parseMethodDescriptor yX2_context.desc).map (fun d => d.parameters.length) = some 3 := by decide +kernel
theorem xd_X2_readMap : yX2_readMap.cls ≠ "java/lang/invoke/MethodHandle" ∧ yX2_readMap.cls ≠ "java/lang/invoke/VarHandle" ∧ (parseMethodDescriptor yX2_readMap.desc).map (fun d => d.parameters.length) = some 2 := by decide +kernel
theorem xd_X0_refuseBeyondEnd : yX0_refuseBeyondEnd.cls ≠ "java/lang/invoke/MethodHandle" ∧ yX0_refuseBeyondEnd.cls ≠ "java/lang/invoke/VarHandle" ∧ (parseMethodDescriptor yX0_refuseBeyondEnd.desc).map (fun d => d.parameters.length) = some 2 := by decide +kernel
theorem xd_X3_add : yX3_add.cls ≠ "java/lang/invoke/MethodHandle" ∧ yX3_add.cls ≠ "java/lang/invoke/VarHandle" ∧ (parseMethodDescriptor yX3_add.desc).map (fun d => d.parameters.length) = some 2 := by decide +kernel
theorem xd_X0_readDistance : yX0_readDistance.cls ≠ "java/lang/invoke/MethodHandle" ∧ yX0_readDistance.cls ≠ "java/lang/invoke/VarHandle" ∧ (parseMethodDescriptor yX0_readDistance.desc).map (fun d => d.parameters.length) = some 2 := by decide +kernel
theorem xd_X0_addWord : yX0_addWord.cls ≠ "java/lang/invoke/MethodHandle" ∧ yX0_addWord.cls ≠ "java/lang/invoke/VarHandle" ∧ (parseMethodDescriptor yX0_addWord.desc).map (fun d => d.parameters.length) = some 3 := by decide +kernel
theorem xd_X3_remember : yX3_remember.cls ≠ "java/lang/invoke/MethodHandle" ∧ yX3_remember.cls ≠ "java/lang/invoke/VarHandle" ∧ (parseMethodDescriptor yX3_remember.desc).map (fun d => d.parameters.length) = some 1 := by decide +kernel
theorem xd_X3_back : yX3_back.cls ≠ "java/lang/invoke/MethodHandle" ∧ yX3_back.cls ≠ "java/lang/invoke/VarHandle" ∧ (parseMethodDescriptor yX3_back.desc).map (fun d => d.parameters.length) = some 1 := by decide +kernel
theorem xd_X0_readPiece : yX0_readPiece.cls ≠ "java/lang/invoke/MethodHandle" ∧ yX0_readPiece.cls ≠ "java/lang/invoke/VarHandle" ∧ (parseMethodDescriptor yX0_readPiece.desc).map (fun d => d.parameters.length) = some 3 := by decide +kernel
theorem xd_X2_stretchIsOver : yX2_stretchIsOver.cls ≠ "java/lang/invoke/MethodHandle" ∧ yX2_stretchIsOver.cls ≠ "java/lang/invoke/VarHandle" ∧ (parseMethodDescriptor yX2_stretchIsOver.desc).map (fun d => d.parameters.length) = some 0 := by decide +kernel
theorem xd_X2_readStretch : yX2_readStretch.cls ≠ "java/lang/invoke/MethodHandle" ∧ yX2_readStretch.cls ≠ "java/lang/invoke/VarHandle" ∧ (parseMethodDescriptor yX2_readStretch.desc).map (fun d => d.parameters.length) = some 1 := by decide +kernel
theorem xd_X2_readLetter : yX2_readLetter.cls ≠ "java/lang/invoke/MethodHandle" ∧ yX2_readLetter.cls ≠ "java/lang/invoke/VarHandle" ∧ (parseMethodDescriptor yX2_readLetter.desc).map (fun d => d.parameters.length) = some 3 := by decide +kernel
theorem xd_X2_readTypes : yX2_readTypes.cls ≠ "java/lang/invoke/MethodHandle" ∧ yX2_readTypes.cls ≠ "java/lang/invoke/VarHandle" ∧ (parseMethodDescriptor yX2_readTypes.desc).map (fun d => d.parameters.length) = some 1 := by decide +kernel
theorem xd_X2_readLetterCodes : yX2_readLetterCodes.cls ≠ "java/lang/invoke/MethodHandle" ∧ yX2_readLetterCodes.cls ≠ "java/lang/invoke/VarHandle" ∧ (parseMethodDescriptor yX2_readLetterCodes.desc).map (fun d => d.parameters.length) = some 1 := by decide +kernel
theorem xd_X0_readCommand : yX0_readCommand.cls ≠ "java/lang/invoke/MethodHandle" ∧ yX0_readCommand.cls ≠ "java/lang/invoke/VarHandle" ∧ (parseMethodDescriptor yX0_readCommand.desc).map (fun d => d.parameters.length) = some 2 := by decide +kernel
theorem xd_X0_readPlain : yX0_readPlain.cls ≠ "java/lang/invoke/MethodHandle" ∧ yX0_readPlain.cls ≠ "java/lang/invoke/VarHandle" ∧ (parseMethodDescriptor yX0_readPlain.desc).map (fun d => d.parameters.length) = some 2 := by decide +kernel
theorem xd_X0_readCoded : yX0_readCoded.cls ≠ "java/lang/invoke/MethodHandle" ∧ yX0_readCoded.cls ≠ "java/lang/invoke/VarHandle" ∧ (parseMethodDescriptor yX0_readCoded.desc).map (fun d => d.parameters.length) = some 2 := by decide +kernel
theorem xd_X4_append : yX4_append.cls ≠ "java/lang/invoke/MethodHandle" ∧ yX4_append.cls ≠ "java/lang/invoke/VarHandle" ∧ (parseMethodDescriptor yX4_append.desc).map (fun d => d.parameters.length) = some 2 := by decide +kernel
theorem xd_X3_clear : yX3_clear.cls ≠ "java/lang/invoke/MethodHandle" ∧ yX3_clear.cls ≠ "java/lang/invoke/VarHandle" ∧ (parseMethodDescriptor yX3_clear.desc).map (fun d => d.parameters.length) = some 0 := by decide +kernel
theorem xd_X0_readBlock : yX0_readBlock.cls ≠ "java/lang/invoke/MethodHandle" ∧ yX0_readBlock.cls ≠ "java/lang/invoke/VarHandle" ∧ (parseMethodDescriptor yX0_readBlock.desc).map (fun d => d.parameters.length) = some 2 := by decide +kernel
theorem xd_X6_noBit : yX6_noBit.cls ≠ "java/lang/invoke/MethodHandle" ∧ yX6_noBit.cls ≠ "java/lang/invoke/VarHandle" ∧ (parseMethodDescriptor yX6_noBit.desc).map (fun d => d.parameters.length) = some 1 := by decide +kernel
theorem xd_X6_number : yX6_number.cls ≠ "java/lang/invoke/MethodHandle" ∧ yX6_number.cls ≠ "java/lang/invoke/VarHandle" ∧ (parseMethodDescriptor yX6_number.desc).map (fun d => d.parameters.length) = some 1 := by decide +kernel
theorem xd_X6_widthOf : yX6_widthOf.cls ≠ "java/lang/invoke/MethodHandle" ∧ yX6_widthOf.cls ≠ "java/lang/invoke/VarHandle" ∧ (parseMethodDescriptor yX6_widthOf.desc).map (fun d => d.parameters.length) = some 1 := by decide +kernel
theorem xd_X6_readSimple : yX6_readSimple.cls ≠ "java/lang/invoke/MethodHandle" ∧ yX6_readSimple.cls ≠ "java/lang/invoke/VarHandle" ∧ (parseMethodDescriptor yX6_readSimple.desc).map (fun d => d.parameters.length) = some 2 := by decide +kernel
theorem xd_X6_wordOf : yX6_wordOf.cls ≠ "java/lang/invoke/MethodHandle" ∧ yX6_wordOf.cls ≠ "java/lang/invoke/VarHandle" ∧ (parseMethodDescriptor yX6_wordOf.desc).map (fun d => d.parameters.length) = some 2 := by decide +kernel
theorem xd_X6_add : yX6_add.cls ≠ "java/lang/invoke/MethodHandle" ∧ yX6_add.cls ≠ "java/lang/invoke/VarHandle" ∧ (parseMethodDescriptor yX6_add.desc).map (fun d => d.parameters.length) = some 1 := by decide +kernel
theorem xd_X6_readCode : yX6_readCode.cls ≠ "java/lang/invoke/MethodHandle" ∧ yX6_readCode.cls ≠ "java/lang/invoke/VarHandle" ∧ (parseMethodDescriptor yX6_readCode.desc).map (fun d => d.parameters.length) = some 2 := by decide +kernel
theorem xd_X6_readMap : yX6_readMap.cls ≠ "java/lang/invoke/MethodHandle" ∧ yX6_readMap.cls ≠ "java/lang/invoke/VarHandle" ∧ (parseMethodDescriptor yX6_readMap.desc).map (fun d => d.parameters.length) = some 1 := by decide +kernel
theorem xd_X6_symbol : yX6_symbol.cls ≠ "java/lang/invoke/MethodHandle" ∧ yX6_symbol.cls ≠ "java/lang/invoke/VarHandle" ∧ (parseMethodDescriptor yX6_symbol.desc).map (fun d => d.parameters.length) = some 1 := by decide +kernel
theorem xd_X6_turn : yX6_turn.cls ≠ "java/lang/invoke/MethodHandle" ∧ yX6_turn.cls ≠ "java/lang/invoke/VarHandle" ∧ (parseMethodDescriptor yX6_turn.desc).map (fun d => d.parameters.length) = some 0 := by decide +kernel
theorem xd_X6_context : yX6_context.cls ≠ "java/lang/invoke/MethodHandle" ∧ yX6_context.cls ≠ "java/lang/invoke/VarHandle" ∧ (parseMethodDescriptor yX6_context.desc).map (fun d => d.parameters.length) = some 0 := by decide +kernel
theorem xd_X6_wordLetter : yX6_wordLetter.cls ≠ "java/lang/invoke/MethodHandle" ∧ yX6_wordLetter.cls ≠ "java/lang/invoke/VarHandle" ∧ (parseMethodDescriptor yX6_wordLetter.desc).map (fun d => d.parameters.length) = some 3 := by decide +kernel
theorem xd_X6_dictionary : yX6_dictionary.cls ≠ "java/lang/invoke/MethodHandle" ∧ yX6_dictionary.cls ≠ "java/lang/invoke/VarHandle" ∧ (parseMethodDescriptor yX6_dictionary.desc).map (fun d => d.parameters.length) = some 3 := by decide +kernel
theorem xd_X6_baseOf : yX6_baseOf.cls ≠ "java/lang/invoke/MethodHandle" ∧ yX6_baseOf.cls ≠ "java/lang/invoke/VarHandle" ∧ (parseMethodDescriptor yX6_baseOf.desc).map (fun d => d.parameters.length) = some 2 := by decide +kernel
theorem xd_X6_readLetter : yX6_readLetter.cls ≠ "java/lang/invoke/MethodHandle" ∧ yX6_readLetter.cls ≠ "java/lang/invoke/VarHandle" ∧ (parseMethodDescriptor yX6_readLetter.desc).map (fun d => d.parameters.length) = some 0 := by decide +kernel
theorem xd_X6_piece : yX6_piece.cls ≠ "java/lang/invoke/MethodHandle" ∧ yX6_piece.cls ≠ "java/lang/invoke/VarHandle" ∧ (parseMethodDescriptor yX6_piece.desc).map (fun d => d.parameters.length) = some 2 := by decide +kernel
theorem xd_X6_readHead : yX6_readHead.cls ≠ "java/lang/invoke/MethodHandle" ∧ yX6_readHead.cls ≠ "java/lang/invoke/VarHandle" ∧ (parseMethodDescriptor yX6_readHead.desc).map (fun d => d.parameters.length) = some 0 := by decide +kernel
theorem xd_X6_commands : yX6_commands.cls ≠ "java/lang/invoke/MethodHandle" ∧ yX6_commands.cls ≠ "java/lang/invoke/VarHandle" ∧ (parseMethodDescriptor yX6_commands.desc).map (fun d => d.parameters.length) = some 1 := by decide +kernel
theorem xd_X6_plain : yX6_plain.cls ≠ "java/lang/invoke/MethodHandle" ∧ yX6_plain.cls ≠ "java/lang/invoke/VarHandle" ∧ (parseMethodDescriptor yX6_plain.desc).map (fun d => d.parameters.length) = some 1 := by decide +kernel
theorem xd_X6_first : yX6_first.cls ≠ "java/lang/invoke/MethodHandle" ∧ yX6_first.cls ≠ "java/lang/invoke/VarHandle" ∧ (parseMethodDescriptor yX6_first.desc).map (fun d => d.parameters.length) = some 1 := by decide +kernel
theorem xd_X6_block : yX6_block.cls ≠ "java/lang/invoke/MethodHandle" ∧ yX6_block.cls ≠ "java/lang/invoke/VarHandle" ∧ (parseMethodDescriptor yX6_block.desc).map (fun d => d.parameters.length) = some 0 := by decide +kernel
theorem xgi_X1_25 : GoodIn xg_B (wsV RX1 25 RX4 yX4_readNumber [Cond.code yX4_readNumber cX4_readNumber 4 (some .int)]) := xc_good xw_389 xw_353 xw_354 xw_35 xw_355 (by decide +kernel)
theorem xgs_X1_49 : GoodIn xg_B (wsS RX1 49 yX1_symbolBits [Cond.code yX1_symbolBits cX1_symbolBits 2 (some .int)]) := xc_goodS xw_394 xw_395 xw_38 xw_396 (by decide +kernel)
theorem xgs_X1_19 : GoodIn xg_B (va_wsS RX1 19 yJ7_fill_53178 [Cond.code yJ7_fill_53178 cJ7_fill_53178 4 none]) := xc_goodQ xw_386 xw_387 xw_48 xw_388 (by decide +kernel)
theorem xgi_X1_35 : GoodIn xg_B (wsV RX1 35 RX1 yX1_readLengths [Cond.code yX1_readLengths cX1_readLengths 6 none]) := xc_good xw_402 xw_404 xw_4 xw_38 xw_405 (by decide +kernel)
theorem xgi_X1_31 : GoodIn xg_B (wsV RX1 31 RX1 yX1_readSimple [Cond.code yX1_readSimple cX1_readSimple 8 none]) := xc_good xw_390 xw_392 xw_3 xw_38 xw_393 (by decide +kernel)
theorem xgi_X1_38 : GoodIn xg_B (wsV RX1 38 RX1 yX1_orderSymbols [Cond.code yX1_orderSymbols cX1_orderSymbols 6 none]) := xc_good xw_408 xw_410 xw_5 xw_38 xw_411 (by decide +kernel)
theorem xgi_X2_69 : GoodIn xg_B (wsV RX2 69 RX1 yX1_readSymbol [Cond.code yX1_readSymbol cX1_readSymbol 6 (some .int)]) := xc_good xw_453 xw_432 xw_433 xw_38 xw_434 (by decide +kernel)
theorem xgi_X2_30 : GoodIn xg_B (wsV RX2 30 RX4 yX4_readNumber [Cond.code yX4_readNumber cX4_readNumber 4 (some .int)]) := xc_good xw_378 xw_353 xw_354 xw_35 xw_355 (by decide +kernel)
theorem xgi_X2_79 : GoodIn xg_B (wsV RX2 79 RX2 yX2_replacePlaces [Cond.code yX2_replacePlaces cX2_replacePlaces 6 none]) := xc_good xw_421 xw_423 xw_7 xw_37 xw_424 (by decide +kernel)
theorem xgi_X2_53 : GoodIn xg_B (wsV RX2 53 RX1 yX1_readCode [Cond.code yX1_readCode cX1_readCode 3 none]) := xc_good xw_382 xw_383 xw_384 xw_38 xw_385 (by decide +kernel)
theorem xgs_X2_73 : GoodIn xg_B (wsS RX2 73 yX2_context [Cond.code yX2_context cX2_context 3 (some .int)]) := xc_goodS xw_462 xw_463 xw_37 xw_464 (by decide +kernel)
theorem xgs_X2_63 : GoodIn xg_B (va_wsS RX2 63 yJ7_fill_53178 [Cond.code yJ7_fill_53178 cJ7_fill_53178 4 none]) := xc_goodQ xw_425 xw_387 xw_48 xw_388 (by decide +kernel)
theorem xgi_X2_60 : GoodIn xg_B (wsV RX2 60 RX2 yX2_readMap [Cond.code yX2_readMap cX2_readMap 5 none]) := xc_good xw_416 xw_418 xw_6 xw_37 xw_419 (by decide +kernel)
theorem xgi_X0_28 : GoodIn xg_B (wsV RX0 28 RX4 yX4_readNumber [Cond.code yX4_readNumber cX4_readNumber 4 (some .int)]) := xc_good xw_352 xw_353 xw_354 xw_35 xw_355 (by decide +kernel)
theorem xgi_X0_89 : GoodIn xg_B (wsV RX0 89 RX0 yX0_refuseBeyondEnd [Cond.code yX0_refuseBeyondEnd cX0_refuseBeyondEnd 3 none]) := xc_good xw_440 xw_442 xw_9 xw_36 xw_443 (by decide +kernel)
theorem xgi_X0_61 : GoodIn xg_B (wsV RX0 61 RX3 yX3_add [Cond.code yX3_add cX3_add 3 none]) := xc_good xw_366 xw_367 xw_368 xw_39 xw_369 (by decide +kernel)
theorem xgi_X0_79 : GoodIn xg_B (wsV RX0 79 RX1 yX1_readSymbol [Cond.code yX1_readSymbol cX1_readSymbol 6 (some .int)]) := xc_good xw_431 xw_432 xw_433 xw_38 xw_434 (by decide +kernel)
theorem xgs_X0_111 : GoodIn xg_B (wsS RX0 111 yX0_readDistance [Cond.code yX0_readDistance cX0_readDistance 3 (some .int)]) := xc_goodS xw_469 xw_470 xw_36 xw_471 (by decide +kernel)
theorem xgi_X0_115 : GoodIn xg_B (wsV RX0 115 RX0 yX0_addWord [Cond.code yX0_addWord cX0_addWord 11 none]) := xc_good xw_472 xw_474 xw_11 xw_36 xw_475 (by decide +kernel)
theorem xgi_X0_119 : GoodIn xg_B (wsV RX0 119 RX3 yX3_remember [Cond.code yX3_remember cX3_remember 3 none]) := xc_good xw_477 xw_478 xw_479 xw_39 xw_480 (by decide +kernel)
theorem xgi_X0_100 : GoodIn xg_B (wsV RX0 100 RX3 yX3_back [Cond.code yX3_back cX3_back 2 (some .int)]) := xc_good xw_454 xw_455 xw_456 xw_39 xw_457 (by decide +kernel)
theorem xgi_X0_107 : GoodIn xg_B (wsV RX0 107 RX0 yX0_readPiece [Cond.code yX0_readPiece cX0_readPiece 7 none]) := xc_good xw_465 xw_467 xw_10 xw_36 xw_468 (by decide +kernel)
theorem xgi_X0_93 : GoodIn xg_B (wsV RX0 93 RX2 yX2_stretchIsOver [Cond.code yX2_stretchIsOver cX2_stretchIsOver 1 (some .boolean)]) := xc_good xw_445 xw_446 xw_447 xw_37 xw_448 (by decide +kernel)
theorem xgi_X0_97 : GoodIn xg_B (wsV RX0 97 RX2 yX2_readStretch [Cond.code yX2_readStretch cX2_readStretch 4 none]) := xc_good xw_449 xw_450 xw_451 xw_37 xw_452 (by decide +kernel)
theorem xgi_X0_103 : GoodIn xg_B (wsV RX0 103 RX2 yX2_readLetter [Cond.code yX2_readLetter cX2_readLetter 5 (some .int)]) := xc_good xw_458 xw_459 xw_460 xw_37 xw_461 (by decide +kernel)
theorem xgi_X0_65 : GoodIn xg_B (wsV RX0 65 RX2 yX2_readTypes [Cond.code yX2_readTypes cX2_readTypes 3 none]) := xc_good xw_374 xw_375 xw_376 xw_37 xw_377 (by decide +kernel)
theorem xgi_X0_69 : GoodIn xg_B (wsV RX0 69 RX2 yX2_readLetterCodes [Cond.code yX2_readLetterCodes cX2_readLetterCodes 4 none]) := xc_good xw_412 xw_413 xw_414 xw_37 xw_415 (by decide +kernel)
theorem xgi_X0_72 : GoodIn xg_B (wsV RX0 72 RX1 yX1_readCode [Cond.code yX1_readCode cX1_readCode 3 none]) := xc_good xw_426 xw_383 xw_384 xw_38 xw_385 (by decide +kernel)
theorem xgi_X0_76 : GoodIn xg_B (wsV RX0 76 RX0 yX0_readCommand [Cond.code yX0_readCommand cX0_readCommand 10 none]) := xc_good xw_427 xw_429 xw_8 xw_36 xw_430 (by decide +kernel)
theorem xgi_X0_54 : GoodIn xg_B (wsV RX0 54 RX0 yX0_readPlain [Cond.code yX0_readPlain cX0_readPlain 4 none]) := xc_good xw_362 xw_364 xw_1 xw_36 xw_365 (by decide +kernel)
theorem xgi_X0_58 : GoodIn xg_B (wsV RX0 58 RX0 yX0_readCoded [Cond.code yX0_readCoded cX0_readCoded 4 none]) := xc_good xw_370 xw_372 xw_2 xw_36 xw_373 (by decide +kernel)
theorem xgi_X5_51 : GoodIn xg_B (wsV RX5 51 RX4 yX4_append [Cond.code yX4_append cX4_append 4 none]) := xc_good xw_291 xw_292 xw_293 xw_35 xw_294 (by decide +kernel)
theorem xgi_X5_69 : GoodIn xg_B (wsV RX5 69 RX3 yX3_clear [Cond.code yX3_clear cX3_clear 1 none]) := xc_good xw_341 xw_342 xw_343 xw_39 xw_344 (by decide +kernel)
theorem xgi_X5_72 : GoodIn xg_B (wsV RX5 72 RX0 yX0_readBlock [Cond.code yX0_readBlock cX0_readBlock 4 (some .boolean)]) := xc_good xw_348 xw_349 xw_350 xw_36 xw_351 (by decide +kernel)
theorem xgi_X6_55 : GoodIn xg_B (wsV RX6 55 RX6 yX6_noBit [Cond.code yX6_noBit cX6_noBit 2 (some .boolean)]) := xc_good xw_583 xw_585 xw_13 xw_40 xw_586 (by decide +kernel)
theorem xgi_X6_66 : GoodIn xg_B (wsV RX6 66 RX6 yX6_number [Cond.code yX6_number cX6_number 4 (some .int)]) := xc_good xw_603 xw_605 xw_15 xw_40 xw_606 (by decide +kernel)
theorem xgi_X6_70 : GoodIn xg_B (wsV RX6 70 RX6 yX6_widthOf [Cond.code yX6_widthOf cX6_widthOf 3 (some .int)]) := xc_good xw_627 xw_629 xw_21 xw_40 xw_630 (by decide +kernel)
theorem xgi_X6_73 : GoodIn xg_B (wsV RX6 73 RX6 yX6_readSimple [Cond.code yX6_readSimple cX6_readSimple 7 none]) := xc_good xw_623 xw_625 xw_20 xw_40 xw_626 (by decide +kernel)
theorem xgi_X6_77 : GoodIn xg_B (wsV RX6 77 RX6 yX6_wordOf [Cond.code yX6_wordOf cX6_wordOf 7 (some .int)]) := xc_good xw_643 xw_645 xw_25 xw_40 xw_646 (by decide +kernel)
theorem xgi_X6_81 : GoodIn xg_B (wsV RX6 81 RX6 yX6_add [Cond.code yX6_add cX6_add 2 none]) := xc_good xw_611 xw_613 xw_17 xw_40 xw_614 (by decide +kernel)
theorem xgi_X6_97 : GoodIn xg_B (wsV RX6 97 RX6 yX6_readCode [Cond.code yX6_readCode cX6_readCode 6 none]) := xc_good xw_619 xw_621 xw_19 xw_40 xw_622 (by decide +kernel)
theorem xgi_X6_103 : GoodIn xg_B (wsV RX6 103 RX6 yX6_readMap [Cond.code yX6_readMap cX6_readMap 7 none]) := xc_good xw_631 xw_633 xw_22 xw_40 xw_634 (by decide +kernel)
theorem xgi_X6_106 : GoodIn xg_B (wsV RX6 106 RX6 yX6_symbol [Cond.code yX6_symbol cX6_symbol 5 (some .int)]) := xc_good xw_639 xw_641 xw_24 xw_40 xw_642 (by decide +kernel)
theorem xgi_X6_109 : GoodIn xg_B (wsV RX6 109 RX6 yX6_turn [Cond.code yX6_turn cX6_turn 3 none]) := xc_good xw_655 xw_657 xw_28 xw_40 xw_658 (by decide +kernel)
theorem xgi_X6_112 : GoodIn xg_B (wsV RX6 112 RX6 yX6_context [Cond.code yX6_context cX6_context 3 (some .int)]) := xc_good xw_659 xw_661 xw_29 xw_40 xw_662 (by decide +kernel)
theorem xgi_X6_116 : GoodIn xg_B (wsV RX6 116 RX6 yX6_wordLetter [Cond.code yX6_wordLetter cX6_wordLetter 4 (some .int)]) := xc_good xw_671 xw_673 xw_32 xw_40 xw_674 (by decide +kernel)
theorem xgi_X6_120 : GoodIn xg_B (wsV RX6 120 RX6 yX6_dictionary [Cond.code yX6_dictionary cX6_dictionary 10 (some .int)]) := xc_good xw_667 xw_669 xw_31 xw_40 xw_670 (by decide +kernel)
theorem xgi_X6_123 : GoodIn xg_B (wsV RX6 123 RX6 yX6_baseOf [Cond.code yX6_baseOf cX6_baseOf 3 (some .int)]) := xc_good xw_647 xw_649 xw_26 xw_40 xw_650 (by decide +kernel)
theorem xgi_X6_126 : GoodIn xg_B (wsV RX6 126 RX6 yX6_readLetter [Cond.code yX6_readLetter cX6_readLetter 1 none]) := xc_good xw_651 xw_653 xw_27 xw_40 xw_654 (by decide +kernel)
theorem xgi_X6_129 : GoodIn xg_B (wsV RX6 129 RX6 yX6_piece [Cond.code yX6_piece cX6_piece 7 (some .int)]) := xc_good xw_663 xw_665 xw_30 xw_40 xw_666 (by decide +kernel)
theorem xgi_X6_135 : GoodIn xg_B (wsV RX6 135 RX6 yX6_readHead [Cond.code yX6_readHead cX6_readHead 3 none]) := xc_good xw_615 xw_617 xw_18 xw_40 xw_618 (by decide +kernel)
theorem xgi_X6_138 : GoodIn xg_B (wsV RX6 138 RX6 yX6_commands [Cond.code yX6_commands cX6_commands 7 none]) := xc_good xw_635 xw_637 xw_23 xw_40 xw_638 (by decide +kernel)
theorem xgi_X6_132 : GoodIn xg_B (wsV RX6 132 RX6 yX6_plain [Cond.code yX6_plain cX6_plain 3 none]) := xc_good xw_607 xw_609 xw_16 xw_40 xw_610 (by decide +kernel)
theorem xgi_X6_44 : GoodIn xg_B (wsV RX6 44 RX6 yX6_first [Cond.code yX6_first cX6_first 3 none]) := xc_good xw_503 xw_505 xw_12 xw_40 xw_506 (by decide +kernel)
theorem xgi_X6_141 : GoodIn xg_B (wsV RX6 141 RX6 yX6_block [Cond.code yX6_block cX6_block 5 (some .boolean)]) := xc_good xw_599 xw_601 xw_14 xw_40 xw_602 (by decide +kernel)
end
section
abbrev oJ7_fill_53178 (aF : Nat) (N : Nat) (K : Nat → ClassId) (q : Unit × ((Nat → Int32))) : xO := .inr (none, [(aF, .inl (K 0, N, .inl q.2))])
def fJ7_fill_53178_5 (N : Nat) : Nat → (Nat → Int32) → Int32 → Int32 → Int32 → Option (Unit × ((Nat → Int32)))
  | 0 => fun _ _ _ _ => none
  | fu + 1 => fun F x1 x2 x3 => (if x3 ≤ x2 then some ((), F) else (if x2 < 0 ∨ N ≤ (x2).toNatClampNeg then none else fJ7_fill_53178_5 N fu (upd F (x2).toNatClampNeg x1) x1 (x2 + (1 : Int32)) x3))
def fJ7_fill_53178 (N : Nat) (F : (Nat → Int32)) (p1 : Int32) : Option (Unit × ((Nat → Int32))) := fJ7_fill_53178_5 N xF F p1 (0 : Int32) (Int32.ofNat N)
set_option maxHeartbeats 4000000 in
set_option maxRecDepth 100000 in
theorem kJ7_fill_53178_5 {p : Program} {l : Launch} {e : Env} {s : State} {m : MethodId} {args : Array Value} {below : List Frame} {meth : Method} {c : Code} {D : va_G} {K : Nat → ClassId} {A : Nat → Prop} {aF : Nat} {N : Nat} (C : xC p s m args meth c cJ7_fill_53178 4 none yJ7_fill_53178 D K A) : ∀ fu : Nat, ∀ (F : (Nat → Int32)) (x1 : Int32) (x2 : Int32) (x3 : Int32) (r : Unit × ((Nat → Int32))), fJ7_fill_53178_5 N fu F x1 x2 x3 = some r → ∀ (H : Heap) (locs : List Loc) (ls : Array Slot), va_P D vwCl ([(aF, .inl (K 0, N, .inl F))]) H → va_D A ([(aF, .inl (K 0, N, .inl F))]) → va_S A s.heap H locs → lv_has ls 4 [(0, .ref aF), (1, .int x1), (2, .int x2), (3, .int x3)] → W p l e (xR 0 0 (oJ7_fill_53178 aF N K r)) s m args below meth c H locs 0 0 (xQ below args s D K A (oJ7_fill_53178 aF N K r)) (F0 m 5 ls []) := by
  obtain ⟨hx, hb, hr, hml, hown, hK, hts, hA, hG, hlk, hte, hnm⟩ := id C
  intro fu
  induction fu with
  | zero =>
    intro F x1 x2 x3 r h
    exact nomatch (show (none : Option (Unit × ((Nat → Int32)))) = some r from h)
  | succ fu ih =>
    intro F x1 x2 x3 r h H locs ls hP hD hS hl
    replace h : (if x3 ≤ x2 then some ((), F) else (if x2 < 0 ∨ N ≤ (x2).toNatClampNeg then none else fJ7_fill_53178_5 N fu (upd F (x2).toNatClampNeg x1) x1 (x2 + (1 : Int32)) x3)) = some r := h
    refine lv_iload_n hx hb dJ7_fill_53178_5 rfl (lv_at hl 2 rfl) ?_
    refine lv_iload_n hx hb dJ7_fill_53178_6 rfl (lv_at hl 3 rfl) ?_
    refine lv_icmp_ge (tgt := 20) hx hb dJ7_fill_53178_7 (by decide) (fun c9 => ?_) (fun c9 => ?_)
    · replace h := xi_t c9 h
      obtain rfl := Option.some.inj h
      exact xe_v C hP hD hS dJ7_fill_53178_20
    · replace h := xi_f c9 h
      refine lv_aload_n hx hb dJ7_fill_53178_10 rfl (lv_at hl 0 rfl) ?_
      refine lv_iload_n hx hb dJ7_fill_53178_11 rfl (lv_at hl 2 rfl) ?_
      refine lv_iload_n hx hb dJ7_fill_53178_12 rfl (lv_at hl 1 rfl) ?_
      obtain ⟨hi9, h⟩ := xi_g h
      refine va_iast hx hb hK hP hD hS 0 0 rfl rfl hi9 dJ7_fill_53178_13 (fun H locs hP hD hS => ?_)
      have hP : va_P D vwCl ([(aF, .inl (K 0, N, .inl (upd F (x2).toNatClampNeg x1)))]) H := hP
      have hD : va_D A ([(aF, .inl (K 0, N, .inl (upd F (x2).toNatClampNeg x1)))]) := hD
      refine lv_iinc (v := (x2 + (1 : Int32))) (lv' := [(2, .int (x2 + (1 : Int32))), (0, .ref aF), (1, .int x1), (3, .int x3)]) hx hb dJ7_fill_53178_14 hl (k := 2) rfl (by rfl) (by decide) rfl (fun ls hl => ?_)
      refine lv_goto (tgt := 5) hx hb dJ7_fill_53178_17 (by decide) ?_
      exact ih _ _ _ _ _ h _ _ _ hP hD hS (lv_sub hl [1, 2, 0, 3] rfl)
set_option maxHeartbeats 4000000 in
set_option maxRecDepth 100000 in
theorem mJ7_fill_53178 (l : Launch) (D : va_G) (K : Nat → ClassId) (aF : Nat) (N : Nat) (sz : Nat) (F : (Nat → Int32)) (p1 : Int32) (r : Unit × ((Nat → Int32))) (h : fJ7_fill_53178 N F p1 = some r) : xMet l yJ7_fill_53178 cJ7_fill_53178 4 none 0 0 D K [.ref aF, .int p1] sz ([(aF, .inl (K 0, N, .inl F))]) (oJ7_fill_53178 aF N K r) := by
  refine xm_of _ (by decide +kernel) (Nat.le_of_ble_eq_true rfl) (fun p e s m args below meth c A C hP hD ls hl => ?_)
  have hl : lv_has ls 4 [(0, .ref aF), (1, .int p1)] := hl
  have hS : va_S A s.heap s.heap [] := va_S.rf
  obtain ⟨hx, hb, hr, hml, hown, hK, hts, hA, hG, hlk, hte, hnm⟩ := id C
  replace h : fJ7_fill_53178_5 N xF F p1 (0 : Int32) (Int32.ofNat N) = some r := h
  refine lv_iconst (v := (0 : Int32)) hx hb dJ7_fill_53178_0 (by decide) ?_
  refine lv_istore_n (lv' := [(2, .int (0 : Int32)), (0, .ref aF), (1, .int p1)]) hx hb dJ7_fill_53178_1 rfl hl (by decide) rfl (fun ls hl => ?_)
  refine lv_aload_n hx hb dJ7_fill_53178_2 rfl (lv_at hl 1 rfl) ?_
  refine va_alen hx hb hK hP 0 0 rfl rfl (v := (Int32.ofNat N)) rfl dJ7_fill_53178_3 ?_
  refine lv_istore_n (lv' := [(3, .int (Int32.ofNat N)), (2, .int (0 : Int32)), (0, .ref aF), (1, .int p1)]) hx hb dJ7_fill_53178_4 rfl hl (by decide) rfl (fun ls hl => ?_)
  exact kJ7_fill_53178_5 C _ _ _ _ _ _ h _ _ _ hP hD hS (lv_sub hl [2, 3, 1, 0] rfl)
end
section
abbrev oX4_append (aS : Nat → Nat) (K : Nat → ClassId) (q : Unit × (S4)) : xO := .inr (none, w4 aS K q.2)
def fX4_append_31 (rec2 : S4 → Int32 → Int32 → Int32 → Option (Unit × (S4))) (S : S4) (x1 : Int32) (x2 : Int32) (x3 : Int32) (t1 : Int32) (t2 : Int32) : Option (Unit × (S4)) := (if t1 < 0 ∨ 2000 ≤ (t1).toNatClampNeg then none else rec2 ((upd S.1 (t1).toNatClampNeg (vp_nar .boolean t2)), S.2.1, S.2.2) x1 x2 (x3 + (1 : Int32)))
def fX4_append_2 : Nat → S4 → Int32 → Int32 → Int32 → Option (Unit × (S4))
  | 0 => fun _ _ _ _ => none
  | fu + 1 => fun S x1 x2 x3 => (if x2 ≤ x3 then some ((), (S.1, (S.2.1 + x2), S.2.2)) else (if ((x1 >>> (x3 &&& 31)) &&& (1 : Int32)) = (1 : Int32) then fX4_append_31 (fX4_append_2 fu) S x1 x2 x3 (S.2.1 + x3) (1 : Int32) else fX4_append_31 (fX4_append_2 fu) S x1 x2 x3 (S.2.1 + x3) (0 : Int32)))
def fX4_append (S : S4) (p1 : Int32) (p2 : Int32) : Option (Unit × (S4)) := fX4_append_2 xF S p1 p2 (0 : Int32)
set_option maxHeartbeats 4000000 in
set_option maxRecDepth 100000 in
theorem kX4_append_31 {p : Program} {l : Launch} {e : Env} {s : State} {m : MethodId} {args : Array Value} {below : List Frame} {meth : Method} {c : Code} {D : va_G} {K : Nat → ClassId} {A : Nat → Prop} {aS : Nat → Nat} (C : xC p s m args meth c cX4_append 4 none yX4_append D K A) (rec2 : S4 → Int32 → Int32 → Int32 → Option (Unit × (S4))) (hrec2 : ∀ (S : S4) (x1 : Int32) (x2 : Int32) (x3 : Int32) (r : Unit × (S4)), rec2 S x1 x2 x3 = some r → ∀ (H : Heap) (locs : List Loc) (ls : Array Slot), va_P D vwCl (w4 aS K S) H → va_D A (w4 aS K S) → va_S A s.heap H locs → lv_has ls 4 [(0, .ref (aS 0)), (1, .int x1), (2, .int x2), (3, .int x3)] → W p l e (xR 0 0 (oX4_append aS K r)) s m args below meth c H locs 0 0 (xQ below args s D K A (oX4_append aS K r)) (F0 m 2 ls [])) : ∀ (S : S4) (x1 : Int32) (x2 : Int32) (x3 : Int32) (t1 : Int32) (t2 : Int32) (r : Unit × (S4)), fX4_append_31  rec2 S x1 x2 x3 t1 t2 = some r → ∀ (H : Heap) (locs : List Loc) (ls : Array Slot), va_P D vwCl (w4 aS K S) H → va_D A (w4 aS K S) → va_S A s.heap H locs → lv_has ls 4 [(0, .ref (aS 0)), (1, .int x1), (2, .int x2), (3, .int x3)] → W p l e (xR 0 0 (oX4_append aS K r)) s m args below meth c H locs 0 0 (xQ below args s D K A (oX4_append aS K r)) (F0 m 31 ls [.int t2, .int t1, .ref (aS 1)]) := by
  obtain ⟨hx, hb, hr, hml, hown, hK, hts, hA, hG, hlk, hte, hnm⟩ := id C
  intro S x1 x2 x3 t1 t2 r h H locs ls hP hD hS hl
  replace h : (if t1 < 0 ∨ 2000 ≤ (t1).toNatClampNeg then none else rec2 ((upd S.1 (t1).toNatClampNeg (vp_nar .boolean t2)), S.2.1, S.2.2) x1 x2 (x3 + (1 : Int32))) = some r := h
  obtain ⟨hi9, h⟩ := xi_g h
  refine va_zast hx hb hK hP hD hS 1 1 rfl rfl hi9 dX4_append_31 (fun H locs hP hD hS => ?_)
  have hP : va_P D vwCl (w4 aS K ((upd S.1 (t1).toNatClampNeg (vp_nar .boolean t2)), S.2.1, S.2.2)) H := hP
  have hD : va_D A (w4 aS K ((upd S.1 (t1).toNatClampNeg (vp_nar .boolean t2)), S.2.1, S.2.2)) := hD
  refine lv_iinc (v := (x3 + (1 : Int32))) (lv' := [(3, .int (x3 + (1 : Int32))), (0, .ref (aS 0)), (1, .int x1), (2, .int x2)]) hx hb dX4_append_32 hl (k := 3) rfl (by rfl) (by decide) rfl (fun ls hl => ?_)
  refine lv_goto (tgt := 2) hx hb dX4_append_35 (by decide) ?_
  exact hrec2 _ _ _ _ _ h _ _ _ hP hD hS (lv_sub hl [1, 2, 3, 0] rfl)
set_option maxHeartbeats 4000000 in
set_option maxRecDepth 100000 in
theorem kX4_append_2 {p : Program} {l : Launch} {e : Env} {s : State} {m : MethodId} {args : Array Value} {below : List Frame} {meth : Method} {c : Code} {D : va_G} {K : Nat → ClassId} {A : Nat → Prop} {aS : Nat → Nat} (C : xC p s m args meth c cX4_append 4 none yX4_append D K A) : ∀ fu : Nat, ∀ (S : S4) (x1 : Int32) (x2 : Int32) (x3 : Int32) (r : Unit × (S4)), fX4_append_2 fu S x1 x2 x3 = some r → ∀ (H : Heap) (locs : List Loc) (ls : Array Slot), va_P D vwCl (w4 aS K S) H → va_D A (w4 aS K S) → va_S A s.heap H locs → lv_has ls 4 [(0, .ref (aS 0)), (1, .int x1), (2, .int x2), (3, .int x3)] → W p l e (xR 0 0 (oX4_append aS K r)) s m args below meth c H locs 0 0 (xQ below args s D K A (oX4_append aS K r)) (F0 m 2 ls []) := by
  obtain ⟨hx, hb, hr, hml, hown, hK, hts, hA, hG, hlk, hte, hnm⟩ := id C
  intro fu
  induction fu with
  | zero =>
    intro S x1 x2 x3 r h
    exact nomatch (show (none : Option (Unit × (S4))) = some r from h)
  | succ fu ih =>
    intro S x1 x2 x3 r h H locs ls hP hD hS hl
    replace h : (if x2 ≤ x3 then some ((), (S.1, (S.2.1 + x2), S.2.2)) else (if ((x1 >>> (x3 &&& 31)) &&& (1 : Int32)) = (1 : Int32) then fX4_append_31 (fX4_append_2 fu) S x1 x2 x3 (S.2.1 + x3) (1 : Int32) else fX4_append_31 (fX4_append_2 fu) S x1 x2 x3 (S.2.1 + x3) (0 : Int32))) = some r := h
    refine lv_iload_n hx hb dX4_append_2 rfl (lv_at hl 3 rfl) ?_
    refine lv_iload_n hx hb dX4_append_3 rfl (lv_at hl 2 rfl) ?_
    refine lv_icmp_ge (tgt := 38) hx hb dX4_append_4 (by decide) (fun c9 => ?_) (fun c9 => ?_)
    · replace h := xi_t c9 h
      refine lv_aload_n hx hb dX4_append_38 rfl (lv_at hl 0 rfl) ?_
      refine lv_dup hx hb dX4_append_39 rfl ?_
      refine va_get (D := D) (ci := 4) (v := .int S.2.1) (C := RX4) (T := TX4) (N := 3) hx hb hts xu_X4 hown hK hP 0 rfl rfl 1 (by decide) (hts _ xw_65) (fun _ h9 => h9) rfl dX4_append_40 ?_
      refine lv_iload_n hx hb dX4_append_43 rfl (lv_at hl 2 rfl) ?_
      refine lv_iadd hx hb dX4_append_44 ?_
      refine va_put (D := D) (ci := 4) (v := .int (S.2.1 + x2)) (ty := .int) (C := RX4) (T := TX4) (N := 3) hx hb hts xu_X4 tyX4 tyX4_ok nmX4 hown hK hP hD hS 0 rfl rfl 1 (by decide) (hts _ xw_65) (fun _ h9 => h9) rfl (by decide +kernel) rfl rfl (Nat.le_of_ble_eq_true rfl) dX4_append_45 (fun H locs hP hD hS => ?_)
      have hP : va_P D vwCl (w4 aS K (S.1, (S.2.1 + x2), S.2.2)) H := hP
      have hD : va_D A (w4 aS K (S.1, (S.2.1 + x2), S.2.2)) := hD
      obtain rfl := Option.some.inj h
      exact xe_v C hP hD hS dX4_append_48
    · replace h := xi_f c9 h
      refine lv_aload_n hx hb dX4_append_7 rfl (lv_at hl 0 rfl) ?_
      refine va_get (D := D) (ci := 4) (v := .ref (aS 1)) (C := RX4) (T := TX4) (N := 3) hx hb hts xu_X4 hown hK hP 0 rfl rfl 0 (by decide) (hts _ xw_63) (fun _ h9 => h9) rfl dX4_append_8 ?_
      refine lv_aload_n hx hb dX4_append_11 rfl (lv_at hl 0 rfl) ?_
      refine va_get (D := D) (ci := 4) (v := .int S.2.1) (C := RX4) (T := TX4) (N := 3) hx hb hts xu_X4 hown hK hP 0 rfl rfl 1 (by decide) (hts _ xw_65) (fun _ h9 => h9) rfl dX4_append_12 ?_
      refine lv_iload_n hx hb dX4_append_15 rfl (lv_at hl 3 rfl) ?_
      refine lv_iadd hx hb dX4_append_16 ?_
      refine lv_iload_n hx hb dX4_append_17 rfl (lv_at hl 1 rfl) ?_
      refine lv_iload_n hx hb dX4_append_18 rfl (lv_at hl 3 rfl) ?_
      refine lv_ishr hx hb dX4_append_19 ?_
      refine lv_iconst (v := (1 : Int32)) hx hb dX4_append_20 (by decide) ?_
      refine lv_iand hx hb dX4_append_21 ?_
      refine lv_iconst (v := (1 : Int32)) hx hb dX4_append_22 (by decide) ?_
      refine lv_icmp_ne (tgt := 30) hx hb dX4_append_23 (by decide) (fun c9 => ?_) (fun c9 => ?_)
      · replace h := xi_f c9 h
        refine lv_iconst (v := (0 : Int32)) hx hb dX4_append_30 (by decide) ?_
        exact kX4_append_31 C _ ih _ _ _ _ _ _ _ h _ _ _ hP hD hS (lv_sub hl [0, 1, 2, 3] rfl)
      · replace h := xi_t c9 h
        refine lv_iconst (v := (1 : Int32)) hx hb dX4_append_26 (by decide) ?_
        refine lv_goto (tgt := 31) hx hb dX4_append_27 (by decide) ?_
        exact kX4_append_31 C _ ih _ _ _ _ _ _ _ h _ _ _ hP hD hS (lv_sub hl [0, 1, 2, 3] rfl)
set_option maxHeartbeats 4000000 in
set_option maxRecDepth 100000 in
theorem mX4_append (l : Launch) (D : va_G) (K : Nat → ClassId) (aS : Nat → Nat) (sz : Nat) (S : S4) (p1 : Int32) (p2 : Int32) (r : Unit × (S4)) (h : fX4_append S p1 p2 = some r) : xMet l yX4_append cX4_append 4 none 0 0 D K [.ref (aS 0), .int p1, .int p2] sz (w4 aS K S) (oX4_append aS K r) := by
  refine xm_of _ (by decide +kernel) (Nat.le_of_ble_eq_true rfl) (fun p e s m args below meth c A C hP hD ls hl => ?_)
  have hl : lv_has ls 4 [(0, .ref (aS 0)), (1, .int p1), (2, .int p2)] := hl
  have hS : va_S A s.heap s.heap [] := va_S.rf
  obtain ⟨hx, hb, hr, hml, hown, hK, hts, hA, hG, hlk, hte, hnm⟩ := id C
  replace h : fX4_append_2 xF S p1 p2 (0 : Int32) = some r := h
  refine lv_iconst (v := (0 : Int32)) hx hb dX4_append_0 (by decide) ?_
  refine lv_istore_n (lv' := [(3, .int (0 : Int32)), (0, .ref (aS 0)), (1, .int p1), (2, .int p2)]) hx hb dX4_append_1 rfl hl (by decide) rfl (fun ls hl => ?_)
  exact kX4_append_2 C _ _ _ _ _ _ h _ _ _ hP hD hS (lv_sub hl [1, 2, 3, 0] rfl)
abbrev oX4_readNumber (aS : Nat → Nat) (K : Nat → ClassId) (r : (String × (S4)) ⊕ (Int32 × (S4))) : xO := match r with
  | .inl q => .inl (q.1, w4 aS K q.2)
  | .inr q => .inr ((some (.int q.1)), w4 aS K q.2)
def fX4_readNumber_27 : Nat → S4 → Int32 → Int32 → Int32 → Option ((String × (S4)) ⊕ (Int32 × (S4)))
  | 0 => fun _ _ _ _ => none
  | fu + 1 => fun S x1 x2 x3 => (if x1 ≤ x3 then some (.inr (x2, (S.1, S.2.1, (S.2.2 + x1)))) else (if (S.2.2 + x3) < 0 ∨ 2000 ≤ ((S.2.2 + x3)).toNatClampNeg then none else (if (S.1 ((S.2.2 + x3)).toNatClampNeg) = 0 then fX4_readNumber_27 fu S x1 x2 (x3 + (1 : Int32)) else fX4_readNumber_27 fu S x1 (x2 ||| ((1 : Int32) <<< (x3 &&& 31))) (x3 + (1 : Int32)))))
def fX4_readNumber (S : S4) (p1 : Int32) : Option ((String × (S4)) ⊕ (Int32 × (S4))) := (if p1 ≤ (S.2.1 - S.2.2) then fX4_readNumber_27 xF S p1 (0 : Int32) (0 : Int32) else some (.inl ("java/lang/IllegalArgumentException", S)))
set_option maxHeartbeats 4000000 in
set_option maxRecDepth 100000 in
theorem kX4_readNumber_27 {p : Program} {l : Launch} {e : Env} {s : State} {m : MethodId} {args : Array Value} {below : List Frame} {meth : Method} {c : Code} {D : va_G} {K : Nat → ClassId} {A : Nat → Prop} {aS : Nat → Nat} (C : xC p s m args meth c cX4_readNumber 4 (some .int) yX4_readNumber D K A) (hlt : l.stackTraces = false) : ∀ fu : Nat, ∀ (S : S4) (x1 : Int32) (x2 : Int32) (x3 : Int32) (r : (String × (S4)) ⊕ (Int32 × (S4))), fX4_readNumber_27 fu S x1 x2 x3 = some r → ∀ (H : Heap) (locs : List Loc) (ls : Array Slot), va_P D vwCl (w4 aS K S) H → va_D A (w4 aS K S) → va_S A s.heap H locs → lv_has ls 4 [(0, .ref (aS 0)), (1, .int x1), (2, .int x2), (3, .int x3)] → W p l e (xR 6 90 (oX4_readNumber aS K r)) s m args below meth c H locs 0 0 (xQ below args s D K A (oX4_readNumber aS K r)) (F0 m 27 ls []) := by
  obtain ⟨hx, hb, hr, hml, hown, hK, hts, hA, hG, hlk, hte, hnm⟩ := id C
  intro fu
  induction fu with
  | zero =>
    intro S x1 x2 x3 r h
    exact nomatch (show (none : Option ((String × (S4)) ⊕ (Int32 × (S4)))) = some r from h)
  | succ fu ih =>
    intro S x1 x2 x3 r h H locs ls hP hD hS hl
    replace h : (if x1 ≤ x3 then some (.inr (x2, (S.1, S.2.1, (S.2.2 + x1)))) else (if (S.2.2 + x3) < 0 ∨ 2000 ≤ ((S.2.2 + x3)).toNatClampNeg then none else (if (S.1 ((S.2.2 + x3)).toNatClampNeg) = 0 then fX4_readNumber_27 fu S x1 x2 (x3 + (1 : Int32)) else fX4_readNumber_27 fu S x1 (x2 ||| ((1 : Int32) <<< (x3 &&& 31))) (x3 + (1 : Int32))))) = some r := h
    refine lv_iload_n hx hb dX4_readNumber_27 rfl (lv_at hl 3 rfl) ?_
    refine lv_iload_n hx hb dX4_readNumber_28 rfl (lv_at hl 1 rfl) ?_
    refine lv_icmp_ge (tgt := 58) hx hb dX4_readNumber_29 (by decide) (fun c9 => ?_) (fun c9 => ?_)
    · replace h := xi_t c9 h
      refine lv_aload_n hx hb dX4_readNumber_58 rfl (lv_at hl 0 rfl) ?_
      refine lv_dup hx hb dX4_readNumber_59 rfl ?_
      refine va_get (D := D) (ci := 4) (v := .int S.2.2) (C := RX4) (T := TX4) (N := 3) hx hb hts xu_X4 hown hK hP 0 rfl rfl 2 (by decide) (hts _ xw_67) (fun _ h9 => h9) rfl dX4_readNumber_60 ?_
      refine lv_iload_n hx hb dX4_readNumber_63 rfl (lv_at hl 1 rfl) ?_
      refine lv_iadd hx hb dX4_readNumber_64 ?_
      refine va_put (D := D) (ci := 4) (v := .int (S.2.2 + x1)) (ty := .int) (C := RX4) (T := TX4) (N := 3) hx hb hts xu_X4 tyX4 tyX4_ok nmX4 hown hK hP hD hS 0 rfl rfl 2 (by decide) (hts _ xw_67) (fun _ h9 => h9) rfl (by decide +kernel) rfl rfl (Nat.le_of_ble_eq_true rfl) dX4_readNumber_65 (fun H locs hP hD hS => ?_)
      have hP : va_P D vwCl (w4 aS K (S.1, S.2.1, (S.2.2 + x1))) H := hP
      have hD : va_D A (w4 aS K (S.1, S.2.1, (S.2.2 + x1))) := hD
      refine lv_iload_n hx hb dX4_readNumber_68 rfl (lv_at hl 2 rfl) ?_
      obtain rfl := Option.some.inj h
      exact xe_i C hP hD hS dX4_readNumber_69
    · replace h := xi_f c9 h
      refine lv_aload_n hx hb dX4_readNumber_32 rfl (lv_at hl 0 rfl) ?_
      refine va_get (D := D) (ci := 4) (v := .ref (aS 1)) (C := RX4) (T := TX4) (N := 3) hx hb hts xu_X4 hown hK hP 0 rfl rfl 0 (by decide) (hts _ xw_63) (fun _ h9 => h9) rfl dX4_readNumber_33 ?_
      refine lv_aload_n hx hb dX4_readNumber_36 rfl (lv_at hl 0 rfl) ?_
      refine va_get (D := D) (ci := 4) (v := .int S.2.2) (C := RX4) (T := TX4) (N := 3) hx hb hts xu_X4 hown hK hP 0 rfl rfl 2 (by decide) (hts _ xw_67) (fun _ h9 => h9) rfl dX4_readNumber_37 ?_
      refine lv_iload_n hx hb dX4_readNumber_40 rfl (lv_at hl 3 rfl) ?_
      refine lv_iadd hx hb dX4_readNumber_41 ?_
      obtain ⟨hi9, h⟩ := xi_g h
      refine va_zald hx hb hK hP 1 1 rfl rfl hi9 dX4_readNumber_42 ?_
      refine lv_if_eq (tgt := 52) hx hb dX4_readNumber_43 (by decide) (fun c9 => ?_) (fun c9 => ?_)
      · replace h := xi_t c9 h
        refine lv_iinc (v := (x3 + (1 : Int32))) (lv' := [(3, .int (x3 + (1 : Int32))), (0, .ref (aS 0)), (1, .int x1), (2, .int x2)]) hx hb dX4_readNumber_52 hl (k := 3) rfl (by rfl) (by decide) rfl (fun ls hl => ?_)
        refine lv_goto (tgt := 27) hx hb dX4_readNumber_55 (by decide) ?_
        exact ih _ _ _ _ _ h _ _ _ hP hD hS (lv_sub hl [1, 2, 3, 0] rfl)
      · replace h := xi_f c9 h
        refine lv_iload_n hx hb dX4_readNumber_46 rfl (lv_at hl 2 rfl) ?_
        refine lv_iconst (v := (1 : Int32)) hx hb dX4_readNumber_47 (by decide) ?_
        refine lv_iload_n hx hb dX4_readNumber_48 rfl (lv_at hl 3 rfl) ?_
        refine lv_ishl hx hb dX4_readNumber_49 ?_
        refine lv_ior hx hb dX4_readNumber_50 ?_
        refine lv_istore_n (lv' := [(2, .int (x2 ||| ((1 : Int32) <<< (x3 &&& 31)))), (0, .ref (aS 0)), (1, .int x1), (3, .int x3)]) hx hb dX4_readNumber_51 rfl hl (by decide) rfl (fun ls hl => ?_)
        refine lv_iinc (v := (x3 + (1 : Int32))) (lv' := [(3, .int (x3 + (1 : Int32))), (2, .int (x2 ||| ((1 : Int32) <<< (x3 &&& 31)))), (0, .ref (aS 0)), (1, .int x1)]) hx hb dX4_readNumber_52 hl (k := 3) rfl (by rfl) (by decide) rfl (fun ls hl => ?_)
        refine lv_goto (tgt := 27) hx hb dX4_readNumber_55 (by decide) ?_
        exact ih _ _ _ _ _ h _ _ _ hP hD hS (lv_sub hl [2, 3, 1, 0] rfl)
set_option maxHeartbeats 4000000 in
set_option maxRecDepth 100000 in
theorem mX4_readNumber (l : Launch) (hlt : l.stackTraces = false) (D : va_G) (K : Nat → ClassId) (aS : Nat → Nat) (sz : Nat) (S : S4) (p1 : Int32) (r : (String × (S4)) ⊕ (Int32 × (S4))) (h : fX4_readNumber S p1 = some r) : xMet l yX4_readNumber cX4_readNumber 4 (some .int) 6 90 D K [.ref (aS 0), .int p1] sz (w4 aS K S) (oX4_readNumber aS K r) := by
  refine xm_of _ (by decide +kernel) (Nat.le_of_ble_eq_true rfl) (fun p e s m args below meth c A C hP hD ls hl => ?_)
  have hl : lv_has ls 4 [(0, .ref (aS 0)), (1, .int p1)] := hl
  have hS : va_S A s.heap s.heap [] := va_S.rf
  obtain ⟨hx, hb, hr, hml, hown, hK, hts, hA, hG, hlk, hte, hnm⟩ := id C
  replace h : (if p1 ≤ (S.2.1 - S.2.2) then fX4_readNumber_27 xF S p1 (0 : Int32) (0 : Int32) else some (.inl ("java/lang/IllegalArgumentException", S))) = some r := h
  refine lv_iload_n hx hb dX4_readNumber_0 rfl (lv_at hl 1 rfl) ?_
  refine lv_aload_n hx hb dX4_readNumber_1 rfl (lv_at hl 0 rfl) ?_
  refine va_get (D := D) (ci := 4) (v := .int S.2.1) (C := RX4) (T := TX4) (N := 3) hx hb hts xu_X4 hown hK hP 0 rfl rfl 1 (by decide) (hts _ xw_65) (fun _ h9 => h9) rfl dX4_readNumber_2 ?_
  refine lv_aload_n hx hb dX4_readNumber_5 rfl (lv_at hl 0 rfl) ?_
  refine va_get (D := D) (ci := 4) (v := .int S.2.2) (C := RX4) (T := TX4) (N := 3) hx hb hts xu_X4 hown hK hP 0 rfl rfl 2 (by decide) (hts _ xw_67) (fun _ h9 => h9) rfl dX4_readNumber_6 ?_
  refine lv_isub hx hb dX4_readNumber_9 ?_
  refine lv_icmp_le (tgt := 23) hx hb dX4_readNumber_10 (by decide) (fun c9 => ?_) (fun c9 => ?_)
  · replace h := xi_t c9 h
    refine lv_iconst (v := (0 : Int32)) hx hb dX4_readNumber_23 (by decide) ?_
    refine lv_istore_n (lv' := [(2, .int (0 : Int32)), (0, .ref (aS 0)), (1, .int p1)]) hx hb dX4_readNumber_24 rfl hl (by decide) rfl (fun ls hl => ?_)
    refine lv_iconst (v := (0 : Int32)) hx hb dX4_readNumber_25 (by decide) ?_
    refine lv_istore_n (lv' := [(3, .int (0 : Int32)), (2, .int (0 : Int32)), (0, .ref (aS 0)), (1, .int p1)]) hx hb dX4_readNumber_26 rfl hl (by decide) rfl (fun ls hl => ?_)
    exact kX4_readNumber_27 C hlt _ _ _ _ _ _ h _ _ _ hP hD hS (lv_sub hl [2, 3, 1, 0] rfl)
  · replace h := xi_f c9 h
    obtain rfl := Option.some.inj h
    exact xe_throw C hlt (text := "the stream ends too early") xf_IllegalArgumentException xf_names xw_356 xw_44 (List.mem_of_getElem? (i := 5) rfl) xat_X4_26 xgd_X4_26 hl hP hD hS dX4_readNumber_13 dX4_readNumber_16 dX4_readNumber_17 dX4_readNumber_19 dX4_readNumber_22 (Nat.le_of_ble_eq_true rfl) (Nat.le_of_ble_eq_true rfl)
end
section
abbrev oX3_add (aO : Nat → Nat) (K : Nat → ClassId) (q : Unit × (S3)) : xO := .inr (none, w3 aO K q.2)
def fX3_add (O : S3) (p1 : Int32) (p2 : Int32) : Option (Unit × (S3)) := (if O.2.2 < 0 ∨ 400 ≤ (O.2.2).toNatClampNeg then none else (if p2 < 0 ∨ 9 ≤ (p2).toNatClampNeg then none else (if p2 < 0 ∨ 9 ≤ (p2).toNatClampNeg then none else some ((), ((upd O.1 (O.2.2).toNatClampNeg p1), (upd O.2.1 (p2).toNatClampNeg ((O.2.1 (p2).toNatClampNeg) + (1 : Int32))), (O.2.2 + (1 : Int32)))))))
set_option maxHeartbeats 4000000 in
set_option maxRecDepth 100000 in
theorem mX3_add (l : Launch) (D : va_G) (K : Nat → ClassId) (aO : Nat → Nat) (sz : Nat) (O : S3) (p1 : Int32) (p2 : Int32) (r : Unit × (S3)) (h : fX3_add O p1 p2 = some r) : xMet l yX3_add cX3_add 3 none 0 0 D K [.ref (aO 0), .int p1, .int p2] sz (w3 aO K O) (oX3_add aO K r) := by
  refine xm_of _ (by decide +kernel) (Nat.le_of_ble_eq_true rfl) (fun p e s m args below meth c A C hP hD ls hl => ?_)
  have hl : lv_has ls 3 [(0, .ref (aO 0)), (1, .int p1), (2, .int p2)] := hl
  have hS : va_S A s.heap s.heap [] := va_S.rf
  obtain ⟨hx, hb, hr, hml, hown, hK, hts, hA, hG, hlk, hte, hnm⟩ := id C
  replace h : (if O.2.2 < 0 ∨ 400 ≤ (O.2.2).toNatClampNeg then none else (if p2 < 0 ∨ 9 ≤ (p2).toNatClampNeg then none else (if p2 < 0 ∨ 9 ≤ (p2).toNatClampNeg then none else some ((), ((upd O.1 (O.2.2).toNatClampNeg p1), (upd O.2.1 (p2).toNatClampNeg ((O.2.1 (p2).toNatClampNeg) + (1 : Int32))), (O.2.2 + (1 : Int32))))))) = some r := h
  refine lv_aload_n hx hb dX3_add_0 rfl (lv_at hl 0 rfl) ?_
  refine va_get (D := D) (ci := 3) (v := .ref (aO 1)) (C := RX3) (T := TX3) (N := 3) hx hb hts xu_X3 hown hK hP 0 rfl rfl 0 (by decide) (hts _ xw_165) (fun _ h9 => h9) rfl dX3_add_1 ?_
  refine lv_aload_n hx hb dX3_add_4 rfl (lv_at hl 0 rfl) ?_
  refine va_get (D := D) (ci := 3) (v := .int O.2.2) (C := RX3) (T := TX3) (N := 3) hx hb hts xu_X3 hown hK hP 0 rfl rfl 2 (by decide) (hts _ xw_170) (fun _ h9 => h9) rfl dX3_add_5 ?_
  refine lv_iload_n hx hb dX3_add_8 rfl (lv_at hl 1 rfl) ?_
  obtain ⟨hi9, h⟩ := xi_g h
  refine va_iast hx hb hK hP hD hS 1 0 rfl rfl hi9 dX3_add_9 (fun H locs hP hD hS => ?_)
  have hP : va_P D vwCl (w3 aO K ((upd O.1 (O.2.2).toNatClampNeg p1), O.2.1, O.2.2)) H := hP
  have hD : va_D A (w3 aO K ((upd O.1 (O.2.2).toNatClampNeg p1), O.2.1, O.2.2)) := hD
  refine lv_aload_n hx hb dX3_add_10 rfl (lv_at hl 0 rfl) ?_
  refine lv_dup hx hb dX3_add_11 rfl ?_
  refine va_get (D := D) (ci := 3) (v := .int O.2.2) (C := RX3) (T := TX3) (N := 3) hx hb hts xu_X3 hown hK hP 0 rfl rfl 2 (by decide) (hts _ xw_170) (fun _ h9 => h9) rfl dX3_add_12 ?_
  refine lv_iconst (v := (1 : Int32)) hx hb dX3_add_15 (by decide) ?_
  refine lv_iadd hx hb dX3_add_16 ?_
  refine va_put (D := D) (ci := 3) (v := .int (O.2.2 + (1 : Int32))) (ty := .int) (C := RX3) (T := TX3) (N := 3) hx hb hts xu_X3 tyX3 tyX3_ok nmX3 hown hK hP hD hS 0 rfl rfl 2 (by decide) (hts _ xw_170) (fun _ h9 => h9) rfl (by decide +kernel) rfl rfl (Nat.le_of_ble_eq_true rfl) dX3_add_17 (fun H locs hP hD hS => ?_)
  have hP : va_P D vwCl (w3 aO K ((upd O.1 (O.2.2).toNatClampNeg p1), O.2.1, (O.2.2 + (1 : Int32)))) H := hP
  have hD : va_D A (w3 aO K ((upd O.1 (O.2.2).toNatClampNeg p1), O.2.1, (O.2.2 + (1 : Int32)))) := hD
  refine lv_aload_n hx hb dX3_add_20 rfl (lv_at hl 0 rfl) ?_
  refine va_get (D := D) (ci := 3) (v := .ref (aO 2)) (C := RX3) (T := TX3) (N := 3) hx hb hts xu_X3 hown hK hP 0 rfl rfl 1 (by decide) (hts _ xw_167) (fun _ h9 => h9) rfl dX3_add_21 ?_
  refine lv_iload_n hx hb dX3_add_24 rfl (lv_at hl 2 rfl) ?_
  refine lv_dup2_11 hx hb dX3_add_25 rfl rfl ?_
  obtain ⟨hi9, h⟩ := xi_g h
  refine va_iald hx hb hK hP 2 0 rfl rfl hi9 dX3_add_26 ?_
  refine lv_iconst (v := (1 : Int32)) hx hb dX3_add_27 (by decide) ?_
  refine lv_iadd hx hb dX3_add_28 ?_
  obtain ⟨hi9, h⟩ := xi_g h
  refine va_iast hx hb hK hP hD hS 2 0 rfl rfl hi9 dX3_add_29 (fun H locs hP hD hS => ?_)
  have hP : va_P D vwCl (w3 aO K ((upd O.1 (O.2.2).toNatClampNeg p1), (upd O.2.1 (p2).toNatClampNeg ((O.2.1 (p2).toNatClampNeg) + (1 : Int32))), (O.2.2 + (1 : Int32)))) H := hP
  have hD : va_D A (w3 aO K ((upd O.1 (O.2.2).toNatClampNeg p1), (upd O.2.1 (p2).toNatClampNeg ((O.2.1 (p2).toNatClampNeg) + (1 : Int32))), (O.2.2 + (1 : Int32)))) := hD
  obtain rfl := Option.some.inj h
  exact xe_v C hP hD hS dX3_add_30
abbrev oX3_back (aO : Nat → Nat) (K : Nat → ClassId) (q : Int32 × (S3)) : xO := .inr ((some (.int q.1)), w3 aO K q.2)
def fX3_back (O : S3) (p1 : Int32) : Option (Int32 × (S3)) := (if O.2.2 < p1 then some ((0 : Int32), O) else (if (O.2.2 - p1) < 0 ∨ 400 ≤ ((O.2.2 - p1)).toNatClampNeg then none else some ((O.1 ((O.2.2 - p1)).toNatClampNeg), O)))
set_option maxHeartbeats 4000000 in
set_option maxRecDepth 100000 in
theorem mX3_back (l : Launch) (D : va_G) (K : Nat → ClassId) (aO : Nat → Nat) (sz : Nat) (O : S3) (p1 : Int32) (r : Int32 × (S3)) (h : fX3_back O p1 = some r) : xMet l yX3_back cX3_back 2 (some .int) 0 0 D K [.ref (aO 0), .int p1] sz (w3 aO K O) (oX3_back aO K r) := by
  refine xm_of _ (by decide +kernel) (Nat.le_of_ble_eq_true rfl) (fun p e s m args below meth c A C hP hD ls hl => ?_)
  have hl : lv_has ls 2 [(0, .ref (aO 0)), (1, .int p1)] := hl
  have hS : va_S A s.heap s.heap [] := va_S.rf
  obtain ⟨hx, hb, hr, hml, hown, hK, hts, hA, hG, hlk, hte, hnm⟩ := id C
  replace h : (if O.2.2 < p1 then some ((0 : Int32), O) else (if (O.2.2 - p1) < 0 ∨ 400 ≤ ((O.2.2 - p1)).toNatClampNeg then none else some ((O.1 ((O.2.2 - p1)).toNatClampNeg), O))) = some r := h
  refine lv_iload_n hx hb dX3_back_0 rfl (lv_at hl 1 rfl) ?_
  refine lv_aload_n hx hb dX3_back_1 rfl (lv_at hl 0 rfl) ?_
  refine va_get (D := D) (ci := 3) (v := .int O.2.2) (C := RX3) (T := TX3) (N := 3) hx hb hts xu_X3 hown hK hP 0 rfl rfl 2 (by decide) (hts _ xw_170) (fun _ h9 => h9) rfl dX3_back_2 ?_
  refine lv_icmp_gt (tgt := 22) hx hb dX3_back_5 (by decide) (fun c9 => ?_) (fun c9 => ?_)
  · replace h := xi_t c9 h
    refine lv_iconst (v := (0 : Int32)) hx hb dX3_back_22 (by decide) ?_
    obtain rfl := Option.some.inj h
    exact xe_i C hP hD hS dX3_back_23
  · replace h := xi_f c9 h
    refine lv_aload_n hx hb dX3_back_8 rfl (lv_at hl 0 rfl) ?_
    refine va_get (D := D) (ci := 3) (v := .ref (aO 1)) (C := RX3) (T := TX3) (N := 3) hx hb hts xu_X3 hown hK hP 0 rfl rfl 0 (by decide) (hts _ xw_165) (fun _ h9 => h9) rfl dX3_back_9 ?_
    refine lv_aload_n hx hb dX3_back_12 rfl (lv_at hl 0 rfl) ?_
    refine va_get (D := D) (ci := 3) (v := .int O.2.2) (C := RX3) (T := TX3) (N := 3) hx hb hts xu_X3 hown hK hP 0 rfl rfl 2 (by decide) (hts _ xw_170) (fun _ h9 => h9) rfl dX3_back_13 ?_
    refine lv_iload_n hx hb dX3_back_16 rfl (lv_at hl 1 rfl) ?_
    refine lv_isub hx hb dX3_back_17 ?_
    obtain ⟨hi9, h⟩ := xi_g h
    refine va_iald hx hb hK hP 1 0 rfl rfl hi9 dX3_back_18 ?_
    refine lv_goto (tgt := 23) hx hb dX3_back_19 (by decide) ?_
    obtain rfl := Option.some.inj h
    exact xe_i C hP hD hS dX3_back_23
abbrev oX3_remember (aO : Nat → Nat) (K : Nat → ClassId) (q : Unit × (S3)) : xO := .inr (none, w3 aO K q.2)
def fX3_remember_3 : Nat → S3 → Int32 → Int32 → Option (Unit × (S3))
  | 0 => fun _ _ _ => none
  | fu + 1 => fun O x1 x2 => (if x2 ≤ (5 : Int32) then (if (5 : Int32) < 0 ∨ 9 ≤ ((5 : Int32)).toNatClampNeg then none else some ((), (O.1, (upd O.2.1 ((5 : Int32)).toNatClampNeg x1), O.2.2))) else (if (x2 - (1 : Int32)) < 0 ∨ 9 ≤ ((x2 - (1 : Int32))).toNatClampNeg then none else (if x2 < 0 ∨ 9 ≤ (x2).toNatClampNeg then none else fX3_remember_3 fu (O.1, (upd O.2.1 (x2).toNatClampNeg (O.2.1 ((x2 - (1 : Int32))).toNatClampNeg)), O.2.2) x1 (x2 + (-1 : Int32)))))
def fX3_remember (O : S3) (p1 : Int32) : Option (Unit × (S3)) := fX3_remember_3 xF O p1 (8 : Int32)
set_option maxHeartbeats 4000000 in
set_option maxRecDepth 100000 in
theorem kX3_remember_3 {p : Program} {l : Launch} {e : Env} {s : State} {m : MethodId} {args : Array Value} {below : List Frame} {meth : Method} {c : Code} {D : va_G} {K : Nat → ClassId} {A : Nat → Prop} {aO : Nat → Nat} (C : xC p s m args meth c cX3_remember 3 none yX3_remember D K A) : ∀ fu : Nat, ∀ (O : S3) (x1 : Int32) (x2 : Int32) (r : Unit × (S3)), fX3_remember_3 fu O x1 x2 = some r → ∀ (H : Heap) (locs : List Loc) (ls : Array Slot), va_P D vwCl (w3 aO K O) H → va_D A (w3 aO K O) → va_S A s.heap H locs → lv_has ls 3 [(0, .ref (aO 0)), (1, .int x1), (2, .int x2)] → W p l e (xR 0 0 (oX3_remember aO K r)) s m args below meth c H locs 0 0 (xQ below args s D K A (oX3_remember aO K r)) (F0 m 3 ls []) := by
  obtain ⟨hx, hb, hr, hml, hown, hK, hts, hA, hG, hlk, hte, hnm⟩ := id C
  intro fu
  induction fu with
  | zero =>
    intro O x1 x2 r h
    exact nomatch (show (none : Option (Unit × (S3))) = some r from h)
  | succ fu ih =>
    intro O x1 x2 r h H locs ls hP hD hS hl
    replace h : (if x2 ≤ (5 : Int32) then (if (5 : Int32) < 0 ∨ 9 ≤ ((5 : Int32)).toNatClampNeg then none else some ((), (O.1, (upd O.2.1 ((5 : Int32)).toNatClampNeg x1), O.2.2))) else (if (x2 - (1 : Int32)) < 0 ∨ 9 ≤ ((x2 - (1 : Int32))).toNatClampNeg then none else (if x2 < 0 ∨ 9 ≤ (x2).toNatClampNeg then none else fX3_remember_3 fu (O.1, (upd O.2.1 (x2).toNatClampNeg (O.2.1 ((x2 - (1 : Int32))).toNatClampNeg)), O.2.2) x1 (x2 + (-1 : Int32))))) = some r := h
    refine lv_iload_n hx hb dX3_remember_3 rfl (lv_at hl 2 rfl) ?_
    refine lv_iconst (v := (5 : Int32)) hx hb dX3_remember_4 (by decide) ?_
    refine lv_icmp_le (tgt := 28) hx hb dX3_remember_5 (by decide) (fun c9 => ?_) (fun c9 => ?_)
    · replace h := xi_t c9 h
      refine lv_aload_n hx hb dX3_remember_28 rfl (lv_at hl 0 rfl) ?_
      refine va_get (D := D) (ci := 3) (v := .ref (aO 2)) (C := RX3) (T := TX3) (N := 3) hx hb hts xu_X3 hown hK hP 0 rfl rfl 1 (by decide) (hts _ xw_167) (fun _ h9 => h9) rfl dX3_remember_29 ?_
      refine lv_iconst (v := (5 : Int32)) hx hb dX3_remember_32 (by decide) ?_
      refine lv_iload_n hx hb dX3_remember_33 rfl (lv_at hl 1 rfl) ?_
      obtain ⟨hi9, h⟩ := xi_g h
      refine va_iast hx hb hK hP hD hS 2 0 rfl rfl hi9 dX3_remember_34 (fun H locs hP hD hS => ?_)
      have hP : va_P D vwCl (w3 aO K (O.1, (upd O.2.1 ((5 : Int32)).toNatClampNeg x1), O.2.2)) H := hP
      have hD : va_D A (w3 aO K (O.1, (upd O.2.1 ((5 : Int32)).toNatClampNeg x1), O.2.2)) := hD
      obtain rfl := Option.some.inj h
      exact xe_v C hP hD hS dX3_remember_35
    · replace h := xi_f c9 h
      refine lv_aload_n hx hb dX3_remember_8 rfl (lv_at hl 0 rfl) ?_
      refine va_get (D := D) (ci := 3) (v := .ref (aO 2)) (C := RX3) (T := TX3) (N := 3) hx hb hts xu_X3 hown hK hP 0 rfl rfl 1 (by decide) (hts _ xw_167) (fun _ h9 => h9) rfl dX3_remember_9 ?_
      refine lv_iload_n hx hb dX3_remember_12 rfl (lv_at hl 2 rfl) ?_
      refine lv_aload_n hx hb dX3_remember_13 rfl (lv_at hl 0 rfl) ?_
      refine va_get (D := D) (ci := 3) (v := .ref (aO 2)) (C := RX3) (T := TX3) (N := 3) hx hb hts xu_X3 hown hK hP 0 rfl rfl 1 (by decide) (hts _ xw_167) (fun _ h9 => h9) rfl dX3_remember_14 ?_
      refine lv_iload_n hx hb dX3_remember_17 rfl (lv_at hl 2 rfl) ?_
      refine lv_iconst (v := (1 : Int32)) hx hb dX3_remember_18 (by decide) ?_
      refine lv_isub hx hb dX3_remember_19 ?_
      obtain ⟨hi9, h⟩ := xi_g h
      refine va_iald hx hb hK hP 2 0 rfl rfl hi9 dX3_remember_20 ?_
      obtain ⟨hi9, h⟩ := xi_g h
      refine va_iast hx hb hK hP hD hS 2 0 rfl rfl hi9 dX3_remember_21 (fun H locs hP hD hS => ?_)
      have hP : va_P D vwCl (w3 aO K (O.1, (upd O.2.1 (x2).toNatClampNeg (O.2.1 ((x2 - (1 : Int32))).toNatClampNeg)), O.2.2)) H := hP
      have hD : va_D A (w3 aO K (O.1, (upd O.2.1 (x2).toNatClampNeg (O.2.1 ((x2 - (1 : Int32))).toNatClampNeg)), O.2.2)) := hD
      refine lv_iinc (v := (x2 + (-1 : Int32))) (lv' := [(2, .int (x2 + (-1 : Int32))), (0, .ref (aO 0)), (1, .int x1)]) hx hb dX3_remember_22 hl (k := 2) rfl (by rfl) (by decide) rfl (fun ls hl => ?_)
      refine lv_goto (tgt := 3) hx hb dX3_remember_25 (by decide) ?_
      exact ih _ _ _ _ h _ _ _ hP hD hS (lv_sub hl [1, 2, 0] rfl)
set_option maxHeartbeats 4000000 in
set_option maxRecDepth 100000 in
theorem mX3_remember (l : Launch) (D : va_G) (K : Nat → ClassId) (aO : Nat → Nat) (sz : Nat) (O : S3) (p1 : Int32) (r : Unit × (S3)) (h : fX3_remember O p1 = some r) : xMet l yX3_remember cX3_remember 3 none 0 0 D K [.ref (aO 0), .int p1] sz (w3 aO K O) (oX3_remember aO K r) := by
  refine xm_of _ (by decide +kernel) (Nat.le_of_ble_eq_true rfl) (fun p e s m args below meth c A C hP hD ls hl => ?_)
  have hl : lv_has ls 3 [(0, .ref (aO 0)), (1, .int p1)] := hl
  have hS : va_S A s.heap s.heap [] := va_S.rf
  obtain ⟨hx, hb, hr, hml, hown, hK, hts, hA, hG, hlk, hte, hnm⟩ := id C
  replace h : fX3_remember_3 xF O p1 (8 : Int32) = some r := h
  refine lv_bipush (v := (8 : Int32)) hx hb dX3_remember_0 (by decide) ?_
  refine lv_istore_n (lv' := [(2, .int (8 : Int32)), (0, .ref (aO 0)), (1, .int p1)]) hx hb dX3_remember_2 rfl hl (by decide) rfl (fun ls hl => ?_)
  exact kX3_remember_3 C _ _ _ _ _ h _ _ _ hP hD hS (lv_sub hl [1, 2, 0] rfl)
end
section
abbrev oX1_readSymbol (aG : Nat → Nat) (aS : Nat → Nat) (K : Nat → ClassId) (r : (String × (S1 × S4)) ⊕ (Int32 × (S1 × S4))) : xO := match r with
  | .inl q => .inl (q.1, w1 aG K q.2.1 ++ w4 aS K q.2.2)
  | .inr q => .inr ((some (.int q.1)), w1 aG K q.2.1 ++ w4 aS K q.2.2)
def fX1_readSymbol_27 : Nat → S1 → S4 → Int32 → Int32 → Int32 → Int32 → Option ((String × (S1 × S4)) ⊕ (Int32 × (S1 × S4)))
  | 0 => fun _ _ _ _ _ _ => none
  | fu + 1 => fun G S x2 x3 x4 x5 => (if (7 : Int32) < x5 then some (.inl ("java/lang/IllegalArgumentException", (G, S))) else xbnd (fX4_readNumber S (1 : Int32)) (fun E9 s_2 => .inl (E9, (G, s_2))) (fun v_1 s_2 => (if x5 < 0 ∨ 8 ≤ (x5).toNatClampNeg then none else (if (G.2.2 (x5).toNatClampNeg) ≤ ((((2 : Int32) * x2) + v_1) - ((2 : Int32) * x3)) then (if x5 < 0 ∨ 8 ≤ (x5).toNatClampNeg then none else (if x5 < 0 ∨ 8 ≤ (x5).toNatClampNeg then none else fX1_readSymbol_27 fu G s_2 (((2 : Int32) * x2) + v_1) (((2 : Int32) * x3) + (G.2.2 (x5).toNatClampNeg)) (x4 + (G.2.2 (x5).toNatClampNeg)) (x5 + (1 : Int32)))) else (if ((x4 + (((2 : Int32) * x2) + v_1)) - ((2 : Int32) * x3)) < 0 ∨ 32 ≤ (((x4 + (((2 : Int32) * x2) + v_1)) - ((2 : Int32) * x3))).toNatClampNeg then none else some (.inr ((G.2.1 (((x4 + (((2 : Int32) * x2) + v_1)) - ((2 : Int32) * x3))).toNatClampNeg), (G, s_2))))))))
def fX1_readSymbol (G : S1) (S : S4) : Option ((String × (S1 × S4)) ⊕ (Int32 × (S1 × S4))) := (if (0 : Int32) < 0 ∨ 8 ≤ ((0 : Int32)).toNatClampNeg then none else (if (G.2.2 ((0 : Int32)).toNatClampNeg) = (1 : Int32) then (if (0 : Int32) < 0 ∨ 32 ≤ ((0 : Int32)).toNatClampNeg then none else some (.inr ((G.2.1 ((0 : Int32)).toNatClampNeg), (G, S)))) else fX1_readSymbol_27 xF G S (0 : Int32) (0 : Int32) (0 : Int32) (1 : Int32)))
set_option maxHeartbeats 4000000 in
set_option maxRecDepth 100000 in
theorem kX1_readSymbol_27 {p : Program} {l : Launch} {e : Env} {s : State} {m : MethodId} {args : Array Value} {below : List Frame} {meth : Method} {c : Code} {D : va_G} {K : Nat → ClassId} {A : Nat → Prop} {aG : Nat → Nat} {aS : Nat → Nat} (C : xC p s m args meth c cX1_readSymbol 6 (some .int) yX1_readSymbol D K A) (hlt : l.stackTraces = false) : ∀ fu : Nat, ∀ (G : S1) (S : S4) (x2 : Int32) (x3 : Int32) (x4 : Int32) (x5 : Int32) (r : (String × (S1 × S4)) ⊕ (Int32 × (S1 × S4))), fX1_readSymbol_27 fu G S x2 x3 x4 x5 = some r → ∀ (H : Heap) (locs : List Loc) (ls : Array Slot), va_P D vwCl (w1 aG K G ++ w4 aS K S) H → va_D A (w1 aG K G ++ w4 aS K S) → va_S A s.heap H locs → lv_has ls 6 [(0, .ref (aG 0)), (1, .ref (aS 0)), (2, .int x2), (3, .int x3), (4, .int x4), (5, .int x5)] → W p l e (xR 7 113 (oX1_readSymbol aG aS K r)) s m args below meth c H locs 0 0 (xQ below args s D K A (oX1_readSymbol aG aS K r)) (F0 m 27 ls []) := by
  obtain ⟨hx, hb, hr, hml, hown, hK, hts, hA, hG, hlk, hte, hnm⟩ := id C
  intro fu
  induction fu with
  | zero =>
    intro G S x2 x3 x4 x5 r h
    exact nomatch (show (none : Option ((String × (S1 × S4)) ⊕ (Int32 × (S1 × S4)))) = some r from h)
  | succ fu ih =>
    intro G S x2 x3 x4 x5 r h H locs ls hP hD hS hl
    replace h : (if (7 : Int32) < x5 then some (.inl ("java/lang/IllegalArgumentException", (G, S))) else xbnd (fX4_readNumber S (1 : Int32)) (fun E9 s_2 => .inl (E9, (G, s_2))) (fun v_1 s_2 => (if x5 < 0 ∨ 8 ≤ (x5).toNatClampNeg then none else (if (G.2.2 (x5).toNatClampNeg) ≤ ((((2 : Int32) * x2) + v_1) - ((2 : Int32) * x3)) then (if x5 < 0 ∨ 8 ≤ (x5).toNatClampNeg then none else (if x5 < 0 ∨ 8 ≤ (x5).toNatClampNeg then none else fX1_readSymbol_27 fu G s_2 (((2 : Int32) * x2) + v_1) (((2 : Int32) * x3) + (G.2.2 (x5).toNatClampNeg)) (x4 + (G.2.2 (x5).toNatClampNeg)) (x5 + (1 : Int32)))) else (if ((x4 + (((2 : Int32) * x2) + v_1)) - ((2 : Int32) * x3)) < 0 ∨ 32 ≤ (((x4 + (((2 : Int32) * x2) + v_1)) - ((2 : Int32) * x3))).toNatClampNeg then none else some (.inr ((G.2.1 (((x4 + (((2 : Int32) * x2) + v_1)) - ((2 : Int32) * x3))).toNatClampNeg), (G, s_2)))))))) = some r := h
    refine lv_iload hx hb dX1_readSymbol_27 (lv_at hl 5 rfl) ?_
    refine lv_bipush (v := (7 : Int32)) hx hb dX1_readSymbol_29 (by decide) ?_
    refine lv_icmp_gt (tgt := 101) hx hb dX1_readSymbol_31 (by decide) (fun c9 => ?_) (fun c9 => ?_)
    · replace h := xi_t c9 h
      obtain rfl := Option.some.inj h
      exact xe_throw C hlt (text := "there is no such word") xf_IllegalArgumentException xf_names xw_397 xw_44 (List.mem_of_getElem? (i := 12) rfl) xat_X1_46 xgd_X1_46 hl hP hD hS dX1_readSymbol_101 dX1_readSymbol_104 dX1_readSymbol_105 dX1_readSymbol_107 dX1_readSymbol_110 (Nat.le_of_ble_eq_true rfl) (Nat.le_of_ble_eq_true rfl)
    · replace h := xi_f c9 h
      refine lv_iconst (v := (2 : Int32)) hx hb dX1_readSymbol_34 (by decide) ?_
      refine lv_iload_n hx hb dX1_readSymbol_35 rfl (lv_at hl 2 rfl) ?_
      refine lv_imul hx hb dX1_readSymbol_36 ?_
      refine lv_aload_n hx hb dX1_readSymbol_37 rfl (lv_at hl 1 rfl) ?_
      refine lv_iconst (v := (1 : Int32)) hx hb dX1_readSymbol_38 (by decide) ?_
      rcases xi_c h with ⟨E9, s_2, hc9, rfl⟩ | ⟨v_1, s_2, hc9, h⟩
      · exact xc_Vt (As := [.int (1 : Int32)]) (ws' := w1 aG K G ++ w4 aS K s_2) C (mX4_readNumber l hlt D K aS _ _ _ _ hc9) xgi_X1_25 xd_X4_readNumber ⟨Nat.le_of_ble_eq_true rfl, Nat.le_of_ble_eq_true rfl⟩ ⟨Nat.le_refl _, Nat.le_refl _⟩ hl rfl (Nat.le_of_ble_eq_true rfl) dX1_readSymbol_39 hP hD hS 4 4 rfl rfl rfl [4, 5] rfl rfl [(4, w4 aS K s_2)] rfl rfl rfl (List.forall_mem_cons.mpr ⟨Nat.le_of_ble_eq_true rfl, (fun _ h => absurd h List.not_mem_nil)⟩)
      · refine xc_V (As := [.int (1 : Int32)]) (ws' := w1 aG K G ++ w4 aS K s_2) C (mX4_readNumber l hlt D K aS _ _ _ _ hc9) xgi_X1_25 xd_X4_readNumber ⟨Nat.le_of_ble_eq_true rfl, Nat.le_of_ble_eq_true rfl⟩ ⟨Nat.zero_le _, Nat.zero_le _⟩ hl rfl (Nat.le_of_ble_eq_true rfl) dX1_readSymbol_39 hP hD hS 4 4 rfl rfl rfl [4, 5] rfl rfl [(4, w4 aS K s_2)] rfl rfl rfl (List.forall_mem_cons.mpr ⟨Nat.le_of_ble_eq_true rfl, (fun _ h => absurd h List.not_mem_nil)⟩) (fun H locs hP hD hS => ?_)
        refine W.eq (g2 := F0 m 42 ls [.int v_1, .int ((2 : Int32) * x2)]) rfl ?_
        refine lv_iadd hx hb dX1_readSymbol_42 ?_
        refine lv_istore_n (lv' := [(2, .int (((2 : Int32) * x2) + v_1)), (0, .ref (aG 0)), (1, .ref (aS 0)), (3, .int x3), (4, .int x4), (5, .int x5)]) hx hb dX1_readSymbol_43 rfl hl (by decide) rfl (fun ls hl => ?_)
        refine lv_iconst (v := (2 : Int32)) hx hb dX1_readSymbol_44 (by decide) ?_
        refine lv_iload_n hx hb dX1_readSymbol_45 rfl (lv_at hl 3 rfl) ?_
        refine lv_imul hx hb dX1_readSymbol_46 ?_
        refine lv_istore_n (lv' := [(3, .int ((2 : Int32) * x3)), (2, .int (((2 : Int32) * x2) + v_1)), (0, .ref (aG 0)), (1, .ref (aS 0)), (4, .int x4), (5, .int x5)]) hx hb dX1_readSymbol_47 rfl hl (by decide) rfl (fun ls hl => ?_)
        refine lv_iload_n hx hb dX1_readSymbol_48 rfl (lv_at hl 1 rfl) ?_
        refine lv_iload_n hx hb dX1_readSymbol_49 rfl (lv_at hl 0 rfl) ?_
        refine lv_isub hx hb dX1_readSymbol_50 ?_
        refine lv_aload_n hx hb dX1_readSymbol_51 rfl (lv_at hl 2 rfl) ?_
        refine va_get (D := D) (ci := 1) (v := .ref (aG 3)) (C := RX1) (T := TX1) (N := 3) hx hb hts xu_X1 hown hK hP 0 rfl rfl 2 (by decide) (hts _ xw_97) (fun _ h9 => h9) rfl dX1_readSymbol_52 ?_
        refine lv_iload hx hb dX1_readSymbol_55 (lv_at hl 5 rfl) ?_
        obtain ⟨hi9, h⟩ := xi_g h
        refine va_iald hx hb hK hP 3 0 rfl rfl hi9 dX1_readSymbol_57 ?_
        refine lv_icmp_ge (tgt := 73) hx hb dX1_readSymbol_58 (by decide) (fun c9 => ?_) (fun c9 => ?_)
        · replace h := xi_t c9 h
          refine lv_iload_n hx hb dX1_readSymbol_73 rfl (lv_at hl 0 rfl) ?_
          refine lv_aload_n hx hb dX1_readSymbol_74 rfl (lv_at hl 2 rfl) ?_
          refine va_get (D := D) (ci := 1) (v := .ref (aG 3)) (C := RX1) (T := TX1) (N := 3) hx hb hts xu_X1 hown hK hP 0 rfl rfl 2 (by decide) (hts _ xw_97) (fun _ h9 => h9) rfl dX1_readSymbol_75 ?_
          refine lv_iload hx hb dX1_readSymbol_78 (lv_at hl 5 rfl) ?_
          obtain ⟨hi9, h⟩ := xi_g h
          refine va_iald hx hb hK hP 3 0 rfl rfl hi9 dX1_readSymbol_80 ?_
          refine lv_iadd hx hb dX1_readSymbol_81 ?_
          refine lv_istore_n (lv' := [(3, .int (((2 : Int32) * x3) + (G.2.2 (x5).toNatClampNeg))), (2, .int (((2 : Int32) * x2) + v_1)), (0, .ref (aG 0)), (1, .ref (aS 0)), (4, .int x4), (5, .int x5)]) hx hb dX1_readSymbol_82 rfl hl (by decide) rfl (fun ls hl => ?_)
          refine lv_iload hx hb dX1_readSymbol_83 (lv_at hl 4 rfl) ?_
          refine lv_aload_n hx hb dX1_readSymbol_85 rfl (lv_at hl 2 rfl) ?_
          refine va_get (D := D) (ci := 1) (v := .ref (aG 3)) (C := RX1) (T := TX1) (N := 3) hx hb hts xu_X1 hown hK hP 0 rfl rfl 2 (by decide) (hts _ xw_97) (fun _ h9 => h9) rfl dX1_readSymbol_86 ?_
          refine lv_iload hx hb dX1_readSymbol_89 (lv_at hl 5 rfl) ?_
          obtain ⟨hi9, h⟩ := xi_g h
          refine va_iald hx hb hK hP 3 0 rfl rfl hi9 dX1_readSymbol_91 ?_
          refine lv_iadd hx hb dX1_readSymbol_92 ?_
          refine lv_istore (lv' := [(4, .int (x4 + (G.2.2 (x5).toNatClampNeg))), (3, .int (((2 : Int32) * x3) + (G.2.2 (x5).toNatClampNeg))), (2, .int (((2 : Int32) * x2) + v_1)), (0, .ref (aG 0)), (1, .ref (aS 0)), (5, .int x5)]) hx hb dX1_readSymbol_93 hl (by decide) rfl (fun ls hl => ?_)
          refine lv_iinc (v := (x5 + (1 : Int32))) (lv' := [(5, .int (x5 + (1 : Int32))), (4, .int (x4 + (G.2.2 (x5).toNatClampNeg))), (3, .int (((2 : Int32) * x3) + (G.2.2 (x5).toNatClampNeg))), (2, .int (((2 : Int32) * x2) + v_1)), (0, .ref (aG 0)), (1, .ref (aS 0))]) hx hb dX1_readSymbol_95 hl (k := 5) rfl (by rfl) (by decide) rfl (fun ls hl => ?_)
          refine lv_goto (tgt := 27) hx hb dX1_readSymbol_98 (by decide) ?_
          exact ih _ _ _ _ _ _ _ h _ _ _ hP hD hS (lv_sub hl [4, 5, 3, 2, 1, 0] rfl)
        · replace h := xi_f c9 h
          refine lv_aload_n hx hb dX1_readSymbol_61 rfl (lv_at hl 2 rfl) ?_
          refine va_get (D := D) (ci := 1) (v := .ref (aG 2)) (C := RX1) (T := TX1) (N := 3) hx hb hts xu_X1 hown hK hP 0 rfl rfl 1 (by decide) (hts _ xw_96) (fun _ h9 => h9) rfl dX1_readSymbol_62 ?_
          refine lv_iload hx hb dX1_readSymbol_65 (lv_at hl 4 rfl) ?_
          refine lv_iload_n hx hb dX1_readSymbol_67 rfl (lv_at hl 1 rfl) ?_
          refine lv_iadd hx hb dX1_readSymbol_68 ?_
          refine lv_iload_n hx hb dX1_readSymbol_69 rfl (lv_at hl 0 rfl) ?_
          refine lv_isub hx hb dX1_readSymbol_70 ?_
          obtain ⟨hi9, h⟩ := xi_g h
          refine va_iald hx hb hK hP 2 0 rfl rfl hi9 dX1_readSymbol_71 ?_
          obtain rfl := Option.some.inj h
          exact xe_i C hP hD hS dX1_readSymbol_72
set_option maxHeartbeats 4000000 in
set_option maxRecDepth 100000 in
theorem mX1_readSymbol (l : Launch) (hlt : l.stackTraces = false) (D : va_G) (K : Nat → ClassId) (aG : Nat → Nat) (aS : Nat → Nat) (sz : Nat) (G : S1) (S : S4) (r : (String × (S1 × S4)) ⊕ (Int32 × (S1 × S4))) (h : fX1_readSymbol G S = some r) : xMet l yX1_readSymbol cX1_readSymbol 6 (some .int) 7 113 D K [.ref (aG 0), .ref (aS 0)] sz (w1 aG K G ++ w4 aS K S) (oX1_readSymbol aG aS K r) := by
  refine xm_of _ (by decide +kernel) (Nat.le_of_ble_eq_true rfl) (fun p e s m args below meth c A C hP hD ls hl => ?_)
  have hl : lv_has ls 6 [(0, .ref (aG 0)), (1, .ref (aS 0))] := hl
  have hS : va_S A s.heap s.heap [] := va_S.rf
  obtain ⟨hx, hb, hr, hml, hown, hK, hts, hA, hG, hlk, hte, hnm⟩ := id C
  replace h : (if (0 : Int32) < 0 ∨ 8 ≤ ((0 : Int32)).toNatClampNeg then none else (if (G.2.2 ((0 : Int32)).toNatClampNeg) = (1 : Int32) then (if (0 : Int32) < 0 ∨ 32 ≤ ((0 : Int32)).toNatClampNeg then none else some (.inr ((G.2.1 ((0 : Int32)).toNatClampNeg), (G, S)))) else fX1_readSymbol_27 xF G S (0 : Int32) (0 : Int32) (0 : Int32) (1 : Int32))) = some r := h
  refine lv_aload_n hx hb dX1_readSymbol_0 rfl (lv_at hl 0 rfl) ?_
  refine va_get (D := D) (ci := 1) (v := .ref (aG 3)) (C := RX1) (T := TX1) (N := 3) hx hb hts xu_X1 hown hK hP 0 rfl rfl 2 (by decide) (hts _ xw_97) (fun _ h9 => h9) rfl dX1_readSymbol_1 ?_
  refine lv_iconst (v := (0 : Int32)) hx hb dX1_readSymbol_4 (by decide) ?_
  obtain ⟨hi9, h⟩ := xi_g h
  refine va_iald hx hb hK hP 3 0 rfl rfl hi9 dX1_readSymbol_5 ?_
  refine lv_iconst (v := (1 : Int32)) hx hb dX1_readSymbol_6 (by decide) ?_
  refine lv_icmp_ne (tgt := 17) hx hb dX1_readSymbol_7 (by decide) (fun c9 => ?_) (fun c9 => ?_)
  · replace h := xi_f c9 h
    refine lv_iconst (v := (0 : Int32)) hx hb dX1_readSymbol_17 (by decide) ?_
    refine lv_istore_n (lv' := [(2, .int (0 : Int32)), (0, .ref (aG 0)), (1, .ref (aS 0))]) hx hb dX1_readSymbol_18 rfl hl (by decide) rfl (fun ls hl => ?_)
    refine lv_iconst (v := (0 : Int32)) hx hb dX1_readSymbol_19 (by decide) ?_
    refine lv_istore_n (lv' := [(3, .int (0 : Int32)), (2, .int (0 : Int32)), (0, .ref (aG 0)), (1, .ref (aS 0))]) hx hb dX1_readSymbol_20 rfl hl (by decide) rfl (fun ls hl => ?_)
    refine lv_iconst (v := (0 : Int32)) hx hb dX1_readSymbol_21 (by decide) ?_
    refine lv_istore (lv' := [(4, .int (0 : Int32)), (3, .int (0 : Int32)), (2, .int (0 : Int32)), (0, .ref (aG 0)), (1, .ref (aS 0))]) hx hb dX1_readSymbol_22 hl (by decide) rfl (fun ls hl => ?_)
    refine lv_iconst (v := (1 : Int32)) hx hb dX1_readSymbol_24 (by decide) ?_
    refine lv_istore (lv' := [(5, .int (1 : Int32)), (4, .int (0 : Int32)), (3, .int (0 : Int32)), (2, .int (0 : Int32)), (0, .ref (aG 0)), (1, .ref (aS 0))]) hx hb dX1_readSymbol_25 hl (by decide) rfl (fun ls hl => ?_)
    exact kX1_readSymbol_27 C hlt _ _ _ _ _ _ _ _ h _ _ _ hP hD hS (lv_sub hl [4, 5, 3, 2, 1, 0] rfl)
  · replace h := xi_t c9 h
    refine lv_aload_n hx hb dX1_readSymbol_10 rfl (lv_at hl 0 rfl) ?_
    refine va_get (D := D) (ci := 1) (v := .ref (aG 2)) (C := RX1) (T := TX1) (N := 3) hx hb hts xu_X1 hown hK hP 0 rfl rfl 1 (by decide) (hts _ xw_96) (fun _ h9 => h9) rfl dX1_readSymbol_11 ?_
    refine lv_iconst (v := (0 : Int32)) hx hb dX1_readSymbol_14 (by decide) ?_
    obtain ⟨hi9, h⟩ := xi_g h
    refine va_iald hx hb hK hP 2 0 rfl rfl hi9 dX1_readSymbol_15 ?_
    obtain rfl := Option.some.inj h
    exact xe_i C hP hD hS dX1_readSymbol_16
abbrev oX1_symbolBits (K : Nat → ClassId) (q : Int32 × (Unit)) : xO := .inr ((some (.int q.1)), ([] : va_W))
def fX1_symbolBits_2 : Nat → Int32 → Int32 → Option (Int32 × (Unit))
  | 0 => fun _ _ => none
  | fu + 1 => fun x0 x1 => (if (5 : Int32) ≤ x1 then some (x1, ()) else (if x0 ≤ ((1 : Int32) <<< (x1 &&& 31)) then some (x1, ()) else fX1_symbolBits_2 fu x0 (x1 + (1 : Int32))))
def fX1_symbolBits (p0 : Int32) : Option (Int32 × (Unit)) := fX1_symbolBits_2 xF p0 (0 : Int32)
set_option maxHeartbeats 4000000 in
set_option maxRecDepth 100000 in
theorem kX1_symbolBits_2 {p : Program} {l : Launch} {e : Env} {s : State} {m : MethodId} {args : Array Value} {below : List Frame} {meth : Method} {c : Code} {D : va_G} {K : Nat → ClassId} {A : Nat → Prop} (C : xC p s m args meth c cX1_symbolBits 2 (some .int) yX1_symbolBits D K A) : ∀ fu : Nat, ∀ (x0 : Int32) (x1 : Int32) (r : Int32 × (Unit)), fX1_symbolBits_2 fu x0 x1 = some r → ∀ (H : Heap) (locs : List Loc) (ls : Array Slot), va_P D vwCl (([] : va_W)) H → va_D A (([] : va_W)) → va_S A s.heap H locs → lv_has ls 2 [(0, .int x0), (1, .int x1)] → W p l e (xR 0 0 (oX1_symbolBits K r)) s m args below meth c H locs 0 0 (xQ below args s D K A (oX1_symbolBits K r)) (F0 m 2 ls []) := by
  obtain ⟨hx, hb, hr, hml, hown, hK, hts, hA, hG, hlk, hte, hnm⟩ := id C
  intro fu
  induction fu with
  | zero =>
    intro x0 x1 r h
    exact nomatch (show (none : Option (Int32 × (Unit))) = some r from h)
  | succ fu ih =>
    intro x0 x1 r h H locs ls hP hD hS hl
    replace h : (if (5 : Int32) ≤ x1 then some (x1, ()) else (if x0 ≤ ((1 : Int32) <<< (x1 &&& 31)) then some (x1, ()) else fX1_symbolBits_2 fu x0 (x1 + (1 : Int32)))) = some r := h
    refine lv_iload_n hx hb dX1_symbolBits_2 rfl (lv_at hl 1 rfl) ?_
    refine lv_iconst (v := (5 : Int32)) hx hb dX1_symbolBits_3 (by decide) ?_
    refine lv_icmp_ge (tgt := 20) hx hb dX1_symbolBits_4 (by decide) (fun c9 => ?_) (fun c9 => ?_)
    · replace h := xi_t c9 h
      refine lv_iload_n hx hb dX1_symbolBits_20 rfl (lv_at hl 1 rfl) ?_
      obtain rfl := Option.some.inj h
      exact xe_i C hP hD hS dX1_symbolBits_21
    · replace h := xi_f c9 h
      refine lv_iconst (v := (1 : Int32)) hx hb dX1_symbolBits_7 (by decide) ?_
      refine lv_iload_n hx hb dX1_symbolBits_8 rfl (lv_at hl 1 rfl) ?_
      refine lv_ishl hx hb dX1_symbolBits_9 ?_
      refine lv_iload_n hx hb dX1_symbolBits_10 rfl (lv_at hl 0 rfl) ?_
      refine lv_icmp_ge (tgt := 20) hx hb dX1_symbolBits_11 (by decide) (fun c9 => ?_) (fun c9 => ?_)
      · replace h := xi_t c9 h
        refine lv_iload_n hx hb dX1_symbolBits_20 rfl (lv_at hl 1 rfl) ?_
        obtain rfl := Option.some.inj h
        exact xe_i C hP hD hS dX1_symbolBits_21
      · replace h := xi_f c9 h
        refine lv_iinc (v := (x1 + (1 : Int32))) (lv' := [(1, .int (x1 + (1 : Int32))), (0, .int x0)]) hx hb dX1_symbolBits_14 hl (k := 1) rfl (by rfl) (by decide) rfl (fun ls hl => ?_)
        refine lv_goto (tgt := 2) hx hb dX1_symbolBits_17 (by decide) ?_
        exact ih _ _ _ h _ _ _ hP hD hS (lv_sub hl [1, 0] rfl)
set_option maxHeartbeats 4000000 in
set_option maxRecDepth 100000 in
theorem mX1_symbolBits (l : Launch) (D : va_G) (K : Nat → ClassId) (sz : Nat) (p0 : Int32) (r : Int32 × (Unit)) (h : fX1_symbolBits p0 = some r) : xMet l yX1_symbolBits cX1_symbolBits 2 (some .int) 0 0 D K [.int p0] sz (([] : va_W)) (oX1_symbolBits K r) := by
  refine xm_of _ (by decide +kernel) (Nat.le_of_ble_eq_true rfl) (fun p e s m args below meth c A C hP hD ls hl => ?_)
  have hl : lv_has ls 2 [(0, .int p0)] := hl
  have hS : va_S A s.heap s.heap [] := va_S.rf
  obtain ⟨hx, hb, hr, hml, hown, hK, hts, hA, hG, hlk, hte, hnm⟩ := id C
  replace h : fX1_symbolBits_2 xF p0 (0 : Int32) = some r := h
  refine lv_iconst (v := (0 : Int32)) hx hb dX1_symbolBits_0 (by decide) ?_
  refine lv_istore_n (lv' := [(1, .int (0 : Int32)), (0, .int p0)]) hx hb dX1_symbolBits_1 rfl hl (by decide) rfl (fun ls hl => ?_)
  exact kX1_symbolBits_2 C _ _ _ _ h _ _ _ hP hD hS (lv_sub hl [1, 0] rfl)
abbrev oX1_readSimple (aG : Nat → Nat) (aS : Nat → Nat) (K : Nat → ClassId) (r : (String × (S1 × S4)) ⊕ (Unit × (S1 × S4))) : xO := match r with
  | .inl q => .inl (q.1, w1 aG K q.2.1 ++ w4 aS K q.2.2)
  | .inr q => .inr (none, w1 aG K q.2.1 ++ w4 aS K q.2.2)
def fX1_readSimple_115 : Nat → S1 → S4 → Int32 → Int32 → Int32 → Option ((String × (S1 × S4)) ⊕ (Unit × (S1 × S4)))
  | 0 => fun _ _ _ _ _ => none
  | fu + 1 => fun G S x3 x6 x7 => (if x3 ≤ x7 then some (.inr ((), (G, S))) else (if x7 < 0 ∨ 32 ≤ (x7).toNatClampNeg then none else (if (x6 + x7) < 0 ∨ 14 ≤ ((x6 + x7)).toNatClampNeg then none else (if (G.2.1 (x7).toNatClampNeg) < 0 ∨ 32 ≤ ((G.2.1 (x7).toNatClampNeg)).toNatClampNeg then none else fX1_readSimple_115 fu ((upd G.1 ((G.2.1 (x7).toNatClampNeg)).toNatClampNeg (xs_simple ((x6 + x7)).toNatClampNeg)), G.2.1, G.2.2) S x3 x6 (x7 + (1 : Int32))))))
def fX1_readSimple_101 (G : S1) (S : S4) (x3 : Int32) (x5 : Int32) : Option ((String × (S1 × S4)) ⊕ (Unit × (S1 × S4))) := fX1_readSimple_115 xF G S x3 ((x5 * (x5 - (1 : Int32))) / (2 : Int32)) (0 : Int32)
def fX1_readSimple_48 (rec17 : S1 → S4 → Int32 → Int32 → Int32 → Int32 → Option ((String × (S1 × S4)) ⊕ (Unit × (S1 × S4)))) (G : S1) (S : S4) : Option ((String × (S1 × S4)) ⊕ (Unit × (S1 × S4))) := some (.inl ("java/lang/IllegalArgumentException", (G, S)))
def fX1_readSimple_17 : Nat → S1 → S4 → Int32 → Int32 → Int32 → Int32 → Option ((String × (S1 × S4)) ⊕ (Unit × (S1 × S4)))
  | 0 => fun _ _ _ _ _ _ => none
  | fu + 1 => fun G S x2 x3 x4 x5 => (if x3 ≤ x5 then (if x3 = (4 : Int32) then xbnd (fX4_readNumber S (1 : Int32)) (fun E9 s_6 => .inl (E9, (G, s_6))) (fun v_5 s_6 => (if v_5 = (1 : Int32) then fX1_readSimple_101 G s_6 x3 (5 : Int32) else fX1_readSimple_101 G s_6 x3 x3)) else fX1_readSimple_101 G S x3 x3) else xbnd (fX4_readNumber S x4) (fun E9 s_8 => .inl (E9, (G, s_8))) (fun v_7 s_8 => (if x2 ≤ v_7 then fX1_readSimple_48 (fX1_readSimple_17 fu) G s_8 else (if v_7 < 0 ∨ 32 ≤ (v_7).toNatClampNeg then none else (if (G.1 (v_7).toNatClampNeg) = (-1 : Int32) then (if v_7 < 0 ∨ 32 ≤ (v_7).toNatClampNeg then none else (if x5 < 0 ∨ 32 ≤ (x5).toNatClampNeg then none else fX1_readSimple_17 fu ((upd G.1 (v_7).toNatClampNeg (0 : Int32)), (upd G.2.1 (x5).toNatClampNeg v_7), G.2.2) s_8 x2 x3 x4 (x5 + (1 : Int32)))) else fX1_readSimple_48 (fX1_readSimple_17 fu) G s_8)))))
def fX1_readSimple (G : S1) (S : S4) (p2 : Int32) : Option ((String × (S1 × S4)) ⊕ (Unit × (S1 × S4))) := xbnd (fX4_readNumber S (2 : Int32)) (fun E9 s_2 => .inl (E9, (G, s_2))) (fun v_1 s_2 => xbnd0 (fX1_symbolBits p2) (fun v_3 s_4 => fX1_readSimple_17 xF G s_2 p2 (v_1 + (1 : Int32)) v_3 (0 : Int32)))
set_option maxHeartbeats 4000000 in
set_option maxRecDepth 100000 in
theorem kX1_readSimple_115 {p : Program} {l : Launch} {e : Env} {s : State} {m : MethodId} {args : Array Value} {below : List Frame} {meth : Method} {c : Code} {D : va_G} {K : Nat → ClassId} {A : Nat → Prop} {aG : Nat → Nat} {aS : Nat → Nat} (C : xC p s m args meth c cX1_readSimple 8 none yX1_readSimple D K A) (hlt : l.stackTraces = false) : ∀ fu : Nat, ∀ (G : S1) (S : S4) (x3 : Int32) (x6 : Int32) (x7 : Int32) (r : (String × (S1 × S4)) ⊕ (Unit × (S1 × S4))), fX1_readSimple_115 fu G S x3 x6 x7 = some r → ∀ (H : Heap) (locs : List Loc) (ls : Array Slot), va_P D vwCl (w1 aG K G ++ w4 aS K S) H → va_D A (w1 aG K G ++ w4 aS K S) → va_S A s.heap H locs → lv_has ls 8 [(0, .ref (aG 0)), (3, .int x3), (6, .int x6), (7, .int x7)] → W p l e (xR 7 113 (oX1_readSimple aG aS K r)) s m args below meth c H locs 0 0 (xQ below args s D K A (oX1_readSimple aG aS K r)) (F0 m 115 ls []) := by
  obtain ⟨hx, hb, hr, hml, hown, hK, hts, hA, hG, hlk, hte, hnm⟩ := id C
  intro fu
  induction fu with
  | zero =>
    intro G S x3 x6 x7 r h
    exact nomatch (show (none : Option ((String × (S1 × S4)) ⊕ (Unit × (S1 × S4)))) = some r from h)
  | succ fu ih =>
    intro G S x3 x6 x7 r h H locs ls hP hD hS hl
    replace h : (if x3 ≤ x7 then some (.inr ((), (G, S))) else (if x7 < 0 ∨ 32 ≤ (x7).toNatClampNeg then none else (if (x6 + x7) < 0 ∨ 14 ≤ ((x6 + x7)).toNatClampNeg then none else (if (G.2.1 (x7).toNatClampNeg) < 0 ∨ 32 ≤ ((G.2.1 (x7).toNatClampNeg)).toNatClampNeg then none else fX1_readSimple_115 fu ((upd G.1 ((G.2.1 (x7).toNatClampNeg)).toNatClampNeg (xs_simple ((x6 + x7)).toNatClampNeg)), G.2.1, G.2.2) S x3 x6 (x7 + (1 : Int32)))))) = some r := h
    refine lv_iload hx hb dX1_readSimple_115 (lv_at hl 3 rfl) ?_
    refine lv_iload_n hx hb dX1_readSimple_117 rfl (lv_at hl 1 rfl) ?_
    refine lv_icmp_ge (tgt := 148) hx hb dX1_readSimple_118 (by decide) (fun c9 => ?_) (fun c9 => ?_)
    · replace h := xi_t c9 h
      obtain rfl := Option.some.inj h
      exact xe_v C hP hD hS dX1_readSimple_148
    · replace h := xi_f c9 h
      refine lv_aload_n hx hb dX1_readSimple_121 rfl (lv_at hl 0 rfl) ?_
      refine va_get (D := D) (ci := 1) (v := .ref (aG 1)) (C := RX1) (T := TX1) (N := 3) hx hb hts xu_X1 hown hK hP 0 rfl rfl 0 (by decide) (hts _ xw_95) (fun _ h9 => h9) rfl dX1_readSimple_122 ?_
      refine lv_aload_n hx hb dX1_readSimple_125 rfl (lv_at hl 0 rfl) ?_
      refine va_get (D := D) (ci := 1) (v := .ref (aG 2)) (C := RX1) (T := TX1) (N := 3) hx hb hts xu_X1 hown hK hP 0 rfl rfl 1 (by decide) (hts _ xw_96) (fun _ h9 => h9) rfl dX1_readSimple_126 ?_
      refine lv_iload hx hb dX1_readSimple_129 (lv_at hl 3 rfl) ?_
      obtain ⟨hi9, h⟩ := xi_g h
      refine va_iald hx hb hK hP 2 0 rfl rfl hi9 dX1_readSimple_131 ?_
      obtain ⟨r_SIMPLE_LENGTHS, hZSIMPLE_LENGTHS, hXSIMPLE_LENGTHS, hLSIMPLE_LENGTHS, hNSIMPLE_LENGTHS⟩ := hG.2.1.2.1
      refine va_gets hx hb hZSIMPLE_LENGTHS hS hown (hts _ xw_400) (fun _ h9 => h9) dX1_readSimple_132 ?_
      refine lv_iload hx hb dX1_readSimple_135 (lv_at hl 2 rfl) ?_
      refine lv_iload hx hb dX1_readSimple_137 (lv_at hl 3 rfl) ?_
      refine lv_iadd hx hb dX1_readSimple_139 ?_
      obtain ⟨hi9, h⟩ := xi_g h
      refine va_sld hx hb hXSIMPLE_LENGTHS hLSIMPLE_LENGTHS hNSIMPLE_LENGTHS hS hi9 dX1_readSimple_140 ?_
      obtain ⟨hi9, h⟩ := xi_g h
      refine va_iast hx hb hK hP hD hS 1 0 rfl rfl hi9 dX1_readSimple_141 (fun H locs hP hD hS => ?_)
      have hP : va_P D vwCl (w1 aG K ((upd G.1 ((G.2.1 (x7).toNatClampNeg)).toNatClampNeg (xs_simple ((x6 + x7)).toNatClampNeg)), G.2.1, G.2.2) ++ w4 aS K S) H := hP
      have hD : va_D A (w1 aG K ((upd G.1 ((G.2.1 (x7).toNatClampNeg)).toNatClampNeg (xs_simple ((x6 + x7)).toNatClampNeg)), G.2.1, G.2.2) ++ w4 aS K S) := hD
      refine lv_iinc (v := (x7 + (1 : Int32))) (lv' := [(7, .int (x7 + (1 : Int32))), (0, .ref (aG 0)), (3, .int x3), (6, .int x6)]) hx hb dX1_readSimple_142 hl (k := 3) rfl (by rfl) (by decide) rfl (fun ls hl => ?_)
      refine lv_goto (tgt := 115) hx hb dX1_readSimple_145 (by decide) ?_
      exact ih _ _ _ _ _ _ h _ _ _ hP hD hS (lv_sub hl [1, 2, 3, 0] rfl)
set_option maxHeartbeats 4000000 in
set_option maxRecDepth 100000 in
theorem kX1_readSimple_101 {p : Program} {l : Launch} {e : Env} {s : State} {m : MethodId} {args : Array Value} {below : List Frame} {meth : Method} {c : Code} {D : va_G} {K : Nat → ClassId} {A : Nat → Prop} {aG : Nat → Nat} {aS : Nat → Nat} (C : xC p s m args meth c cX1_readSimple 8 none yX1_readSimple D K A) (hlt : l.stackTraces = false) : ∀ (G : S1) (S : S4) (x3 : Int32) (x5 : Int32) (r : (String × (S1 × S4)) ⊕ (Unit × (S1 × S4))), fX1_readSimple_101  G S x3 x5 = some r → ∀ (H : Heap) (locs : List Loc) (ls : Array Slot), va_P D vwCl (w1 aG K G ++ w4 aS K S) H → va_D A (w1 aG K G ++ w4 aS K S) → va_S A s.heap H locs → lv_has ls 8 [(0, .ref (aG 0)), (3, .int x3), (5, .int x5)] → W p l e (xR 7 113 (oX1_readSimple aG aS K r)) s m args below meth c H locs 0 0 (xQ below args s D K A (oX1_readSimple aG aS K r)) (F0 m 101 ls []) := by
  obtain ⟨hx, hb, hr, hml, hown, hK, hts, hA, hG, hlk, hte, hnm⟩ := id C
  intro G S x3 x5 r h H locs ls hP hD hS hl
  replace h : fX1_readSimple_115 xF G S x3 ((x5 * (x5 - (1 : Int32))) / (2 : Int32)) (0 : Int32) = some r := h
  refine lv_iload hx hb dX1_readSimple_101 (lv_at hl 2 rfl) ?_
  refine lv_iload hx hb dX1_readSimple_103 (lv_at hl 2 rfl) ?_
  refine lv_iconst (v := (1 : Int32)) hx hb dX1_readSimple_105 (by decide) ?_
  refine lv_isub hx hb dX1_readSimple_106 ?_
  refine lv_imul hx hb dX1_readSimple_107 ?_
  refine lv_iconst (v := (2 : Int32)) hx hb dX1_readSimple_108 (by decide) ?_
  refine lv_idiv hx hb dX1_readSimple_109 (by decide) ?_
  refine lv_istore (lv' := [(6, .int ((x5 * (x5 - (1 : Int32))) / (2 : Int32))), (0, .ref (aG 0)), (3, .int x3), (5, .int x5)]) hx hb dX1_readSimple_110 hl (by decide) rfl (fun ls hl => ?_)
  refine lv_iconst (v := (0 : Int32)) hx hb dX1_readSimple_112 (by decide) ?_
  refine lv_istore (lv' := [(7, .int (0 : Int32)), (6, .int ((x5 * (x5 - (1 : Int32))) / (2 : Int32))), (0, .ref (aG 0)), (3, .int x3), (5, .int x5)]) hx hb dX1_readSimple_113 hl (by decide) rfl (fun ls hl => ?_)
  exact kX1_readSimple_115 C hlt _ _ _ _ _ _ _ h _ _ _ hP hD hS (lv_sub hl [2, 3, 1, 0] rfl)
set_option maxHeartbeats 4000000 in
set_option maxRecDepth 100000 in
theorem kX1_readSimple_48 {p : Program} {l : Launch} {e : Env} {s : State} {m : MethodId} {args : Array Value} {below : List Frame} {meth : Method} {c : Code} {D : va_G} {K : Nat → ClassId} {A : Nat → Prop} {aG : Nat → Nat} {aS : Nat → Nat} (C : xC p s m args meth c cX1_readSimple 8 none yX1_readSimple D K A) (hlt : l.stackTraces = false) (rec17 : S1 → S4 → Int32 → Int32 → Int32 → Int32 → Option ((String × (S1 × S4)) ⊕ (Unit × (S1 × S4)))) (hrec17 : ∀ (G : S1) (S : S4) (x2 : Int32) (x3 : Int32) (x4 : Int32) (x5 : Int32) (r : (String × (S1 × S4)) ⊕ (Unit × (S1 × S4))), rec17 G S x2 x3 x4 x5 = some r → ∀ (H : Heap) (locs : List Loc) (ls : Array Slot), va_P D vwCl (w1 aG K G ++ w4 aS K S) H → va_D A (w1 aG K G ++ w4 aS K S) → va_S A s.heap H locs → lv_has ls 8 [(0, .ref (aG 0)), (1, .ref (aS 0)), (2, .int x2), (3, .int x3), (4, .int x4), (5, .int x5)] → W p l e (xR 7 113 (oX1_readSimple aG aS K r)) s m args below meth c H locs 0 0 (xQ below args s D K A (oX1_readSimple aG aS K r)) (F0 m 17 ls [])) : ∀ (G : S1) (S : S4) (r : (String × (S1 × S4)) ⊕ (Unit × (S1 × S4))), fX1_readSimple_48  rec17 G S = some r → ∀ (H : Heap) (locs : List Loc) (ls : Array Slot), va_P D vwCl (w1 aG K G ++ w4 aS K S) H → va_D A (w1 aG K G ++ w4 aS K S) → va_S A s.heap H locs → lv_has ls 8 [] → W p l e (xR 7 113 (oX1_readSimple aG aS K r)) s m args below meth c H locs 0 0 (xQ below args s D K A (oX1_readSimple aG aS K r)) (F0 m 48 ls []) := by
  obtain ⟨hx, hb, hr, hml, hown, hK, hts, hA, hG, hlk, hte, hnm⟩ := id C
  intro G S r h H locs ls hP hD hS hl
  replace h : some (.inl ("java/lang/IllegalArgumentException", (G, S))) = some r := h
  obtain rfl := Option.some.inj h
  exact xe_throw C hlt (text := "a symbol of a simple code is wrong") xf_IllegalArgumentException xf_names xw_397 xw_44 (List.mem_of_getElem? (i := 8) rfl) xat_X1_46 xgd_X1_46 hl hP hD hS dX1_readSimple_48 dX1_readSimple_51 dX1_readSimple_52 dX1_readSimple_54 dX1_readSimple_57 (Nat.le_of_ble_eq_true rfl) (Nat.le_of_ble_eq_true rfl)
set_option maxHeartbeats 4000000 in
set_option maxRecDepth 100000 in
theorem kX1_readSimple_17 {p : Program} {l : Launch} {e : Env} {s : State} {m : MethodId} {args : Array Value} {below : List Frame} {meth : Method} {c : Code} {D : va_G} {K : Nat → ClassId} {A : Nat → Prop} {aG : Nat → Nat} {aS : Nat → Nat} (C : xC p s m args meth c cX1_readSimple 8 none yX1_readSimple D K A) (hlt : l.stackTraces = false) : ∀ fu : Nat, ∀ (G : S1) (S : S4) (x2 : Int32) (x3 : Int32) (x4 : Int32) (x5 : Int32) (r : (String × (S1 × S4)) ⊕ (Unit × (S1 × S4))), fX1_readSimple_17 fu G S x2 x3 x4 x5 = some r → ∀ (H : Heap) (locs : List Loc) (ls : Array Slot), va_P D vwCl (w1 aG K G ++ w4 aS K S) H → va_D A (w1 aG K G ++ w4 aS K S) → va_S A s.heap H locs → lv_has ls 8 [(0, .ref (aG 0)), (1, .ref (aS 0)), (2, .int x2), (3, .int x3), (4, .int x4), (5, .int x5)] → W p l e (xR 7 113 (oX1_readSimple aG aS K r)) s m args below meth c H locs 0 0 (xQ below args s D K A (oX1_readSimple aG aS K r)) (F0 m 17 ls []) := by
  obtain ⟨hx, hb, hr, hml, hown, hK, hts, hA, hG, hlk, hte, hnm⟩ := id C
  intro fu
  induction fu with
  | zero =>
    intro G S x2 x3 x4 x5 r h
    exact nomatch (show (none : Option ((String × (S1 × S4)) ⊕ (Unit × (S1 × S4)))) = some r from h)
  | succ fu ih =>
    intro G S x2 x3 x4 x5 r h H locs ls hP hD hS hl
    replace h : (if x3 ≤ x5 then (if x3 = (4 : Int32) then xbnd (fX4_readNumber S (1 : Int32)) (fun E9 s_6 => .inl (E9, (G, s_6))) (fun v_5 s_6 => (if v_5 = (1 : Int32) then fX1_readSimple_101 G s_6 x3 (5 : Int32) else fX1_readSimple_101 G s_6 x3 x3)) else fX1_readSimple_101 G S x3 x3) else xbnd (fX4_readNumber S x4) (fun E9 s_8 => .inl (E9, (G, s_8))) (fun v_7 s_8 => (if x2 ≤ v_7 then fX1_readSimple_48 (fX1_readSimple_17 fu) G s_8 else (if v_7 < 0 ∨ 32 ≤ (v_7).toNatClampNeg then none else (if (G.1 (v_7).toNatClampNeg) = (-1 : Int32) then (if v_7 < 0 ∨ 32 ≤ (v_7).toNatClampNeg then none else (if x5 < 0 ∨ 32 ≤ (x5).toNatClampNeg then none else fX1_readSimple_17 fu ((upd G.1 (v_7).toNatClampNeg (0 : Int32)), (upd G.2.1 (x5).toNatClampNeg v_7), G.2.2) s_8 x2 x3 x4 (x5 + (1 : Int32)))) else fX1_readSimple_48 (fX1_readSimple_17 fu) G s_8))))) = some r := h
    refine lv_iload hx hb dX1_readSimple_17 (lv_at hl 5 rfl) ?_
    refine lv_iload_n hx hb dX1_readSimple_19 rfl (lv_at hl 3 rfl) ?_
    refine lv_icmp_ge (tgt := 81) hx hb dX1_readSimple_20 (by decide) (fun c9 => ?_) (fun c9 => ?_)
    · replace h := xi_t c9 h
      refine lv_iload_n hx hb dX1_readSimple_81 rfl (lv_at hl 3 rfl) ?_
      refine lv_istore (lv' := [(5, .int x3), (0, .ref (aG 0)), (1, .ref (aS 0)), (2, .int x2), (3, .int x3), (4, .int x4)]) hx hb dX1_readSimple_82 hl (by decide) rfl (fun ls hl => ?_)
      refine lv_iload_n hx hb dX1_readSimple_84 rfl (lv_at hl 4 rfl) ?_
      refine lv_iconst (v := (4 : Int32)) hx hb dX1_readSimple_85 (by decide) ?_
      refine lv_icmp_ne (tgt := 101) hx hb dX1_readSimple_86 (by decide) (fun c9 => ?_) (fun c9 => ?_)
      · replace h := xi_f c9 h
        exact kX1_readSimple_101 C hlt _ _ _ _ _ h _ _ _ hP hD hS (lv_sub hl [1, 4, 0] rfl)
      · replace h := xi_t c9 h
        refine lv_aload_n hx hb dX1_readSimple_89 rfl (lv_at hl 2 rfl) ?_
        refine lv_iconst (v := (1 : Int32)) hx hb dX1_readSimple_90 (by decide) ?_
        rcases xi_c h with ⟨E9, s_6, hc9, rfl⟩ | ⟨v_5, s_6, hc9, h⟩
        · exact xc_Vt (As := [.int (1 : Int32)]) (ws' := w1 aG K G ++ w4 aS K s_6) C (mX4_readNumber l hlt D K aS _ _ _ _ hc9) xgi_X1_25 xd_X4_readNumber ⟨Nat.le_of_ble_eq_true rfl, Nat.le_of_ble_eq_true rfl⟩ ⟨Nat.le_refl _, Nat.le_refl _⟩ hl rfl (Nat.le_of_ble_eq_true rfl) dX1_readSimple_91 hP hD hS 4 4 rfl rfl rfl [4, 5] rfl rfl [(4, w4 aS K s_6)] rfl rfl rfl (List.forall_mem_cons.mpr ⟨Nat.le_of_ble_eq_true rfl, (fun _ h => absurd h List.not_mem_nil)⟩)
        · refine xc_V (As := [.int (1 : Int32)]) (ws' := w1 aG K G ++ w4 aS K s_6) C (mX4_readNumber l hlt D K aS _ _ _ _ hc9) xgi_X1_25 xd_X4_readNumber ⟨Nat.le_of_ble_eq_true rfl, Nat.le_of_ble_eq_true rfl⟩ ⟨Nat.zero_le _, Nat.zero_le _⟩ hl rfl (Nat.le_of_ble_eq_true rfl) dX1_readSimple_91 hP hD hS 4 4 rfl rfl rfl [4, 5] rfl rfl [(4, w4 aS K s_6)] rfl rfl rfl (List.forall_mem_cons.mpr ⟨Nat.le_of_ble_eq_true rfl, (fun _ h => absurd h List.not_mem_nil)⟩) (fun H locs hP hD hS => ?_)
          refine W.eq (g2 := F0 m 94 ls [.int v_5]) rfl ?_
          refine lv_iconst (v := (1 : Int32)) hx hb dX1_readSimple_94 (by decide) ?_
          refine lv_icmp_ne (tgt := 101) hx hb dX1_readSimple_95 (by decide) (fun c9 => ?_) (fun c9 => ?_)
          · replace h := xi_f c9 h
            exact kX1_readSimple_101 C hlt _ _ _ _ _ h _ _ _ hP hD hS (lv_sub hl [1, 4, 0] rfl)
          · replace h := xi_t c9 h
            refine lv_iconst (v := (5 : Int32)) hx hb dX1_readSimple_98 (by decide) ?_
            refine lv_istore (lv' := [(5, .int (5 : Int32)), (0, .ref (aG 0)), (1, .ref (aS 0)), (2, .int x2), (3, .int x3), (4, .int x4)]) hx hb dX1_readSimple_99 hl (by decide) rfl (fun ls hl => ?_)
            exact kX1_readSimple_101 C hlt _ _ _ _ _ h _ _ _ hP hD hS (lv_sub hl [1, 4, 0] rfl)
    · replace h := xi_f c9 h
      refine lv_aload_n hx hb dX1_readSimple_23 rfl (lv_at hl 1 rfl) ?_
      refine lv_iload hx hb dX1_readSimple_24 (lv_at hl 4 rfl) ?_
      rcases xi_c h with ⟨E9, s_8, hc9, rfl⟩ | ⟨v_7, s_8, hc9, h⟩
      · exact xc_Vt (As := [.int x4]) (ws' := w1 aG K G ++ w4 aS K s_8) C (mX4_readNumber l hlt D K aS _ _ _ _ hc9) xgi_X1_25 xd_X4_readNumber ⟨Nat.le_of_ble_eq_true rfl, Nat.le_of_ble_eq_true rfl⟩ ⟨Nat.le_refl _, Nat.le_refl _⟩ hl rfl (Nat.le_of_ble_eq_true rfl) dX1_readSimple_26 hP hD hS 4 4 rfl rfl rfl [4, 5] rfl rfl [(4, w4 aS K s_8)] rfl rfl rfl (List.forall_mem_cons.mpr ⟨Nat.le_of_ble_eq_true rfl, (fun _ h => absurd h List.not_mem_nil)⟩)
      · refine xc_V (As := [.int x4]) (ws' := w1 aG K G ++ w4 aS K s_8) C (mX4_readNumber l hlt D K aS _ _ _ _ hc9) xgi_X1_25 xd_X4_readNumber ⟨Nat.le_of_ble_eq_true rfl, Nat.le_of_ble_eq_true rfl⟩ ⟨Nat.zero_le _, Nat.zero_le _⟩ hl rfl (Nat.le_of_ble_eq_true rfl) dX1_readSimple_26 hP hD hS 4 4 rfl rfl rfl [4, 5] rfl rfl [(4, w4 aS K s_8)] rfl rfl rfl (List.forall_mem_cons.mpr ⟨Nat.le_of_ble_eq_true rfl, (fun _ h => absurd h List.not_mem_nil)⟩) (fun H locs hP hD hS => ?_)
        refine W.eq (g2 := F0 m 29 ls [.int v_7]) rfl ?_
        refine lv_istore (lv' := [(6, .int v_7), (0, .ref (aG 0)), (1, .ref (aS 0)), (2, .int x2), (3, .int x3), (4, .int x4), (5, .int x5)]) hx hb dX1_readSimple_29 hl (by decide) rfl (fun ls hl => ?_)
        refine lv_iload hx hb dX1_readSimple_31 (lv_at hl 0 rfl) ?_
        refine lv_iload_n hx hb dX1_readSimple_33 rfl (lv_at hl 3 rfl) ?_
        refine lv_icmp_ge (tgt := 48) hx hb dX1_readSimple_34 (by decide) (fun c9 => ?_) (fun c9 => ?_)
        · replace h := xi_t c9 h
          exact kX1_readSimple_48 C hlt _ ih _ _ _ h _ _ _ hP hD hS (lv_sub hl [] rfl)
        · replace h := xi_f c9 h
          refine lv_aload_n hx hb dX1_readSimple_37 rfl (lv_at hl 1 rfl) ?_
          refine va_get (D := D) (ci := 1) (v := .ref (aG 1)) (C := RX1) (T := TX1) (N := 3) hx hb hts xu_X1 hown hK hP 0 rfl rfl 0 (by decide) (hts _ xw_95) (fun _ h9 => h9) rfl dX1_readSimple_38 ?_
          refine lv_iload hx hb dX1_readSimple_41 (lv_at hl 0 rfl) ?_
          obtain ⟨hi9, h⟩ := xi_g h
          refine va_iald hx hb hK hP 1 0 rfl rfl hi9 dX1_readSimple_43 ?_
          refine lv_iconst (v := (-1 : Int32)) hx hb dX1_readSimple_44 (by decide) ?_
          refine lv_icmp_eq (tgt := 58) hx hb dX1_readSimple_45 (by decide) (fun c9 => ?_) (fun c9 => ?_)
          · replace h := xi_t c9 h
            refine lv_aload_n hx hb dX1_readSimple_58 rfl (lv_at hl 1 rfl) ?_
            refine va_get (D := D) (ci := 1) (v := .ref (aG 1)) (C := RX1) (T := TX1) (N := 3) hx hb hts xu_X1 hown hK hP 0 rfl rfl 0 (by decide) (hts _ xw_95) (fun _ h9 => h9) rfl dX1_readSimple_59 ?_
            refine lv_iload hx hb dX1_readSimple_62 (lv_at hl 0 rfl) ?_
            refine lv_iconst (v := (0 : Int32)) hx hb dX1_readSimple_64 (by decide) ?_
            obtain ⟨hi9, h⟩ := xi_g h
            refine va_iast hx hb hK hP hD hS 1 0 rfl rfl hi9 dX1_readSimple_65 (fun H locs hP hD hS => ?_)
            have hP : va_P D vwCl (w1 aG K ((upd G.1 (v_7).toNatClampNeg (0 : Int32)), G.2.1, G.2.2) ++ w4 aS K s_8) H := hP
            have hD : va_D A (w1 aG K ((upd G.1 (v_7).toNatClampNeg (0 : Int32)), G.2.1, G.2.2) ++ w4 aS K s_8) := hD
            refine lv_aload_n hx hb dX1_readSimple_66 rfl (lv_at hl 1 rfl) ?_
            refine va_get (D := D) (ci := 1) (v := .ref (aG 2)) (C := RX1) (T := TX1) (N := 3) hx hb hts xu_X1 hown hK hP 0 rfl rfl 1 (by decide) (hts _ xw_96) (fun _ h9 => h9) rfl dX1_readSimple_67 ?_
            refine lv_iload hx hb dX1_readSimple_70 (lv_at hl 6 rfl) ?_
            refine lv_iload hx hb dX1_readSimple_72 (lv_at hl 0 rfl) ?_
            obtain ⟨hi9, h⟩ := xi_g h
            refine va_iast hx hb hK hP hD hS 2 0 rfl rfl hi9 dX1_readSimple_74 (fun H locs hP hD hS => ?_)
            have hP : va_P D vwCl (w1 aG K ((upd G.1 (v_7).toNatClampNeg (0 : Int32)), (upd G.2.1 (x5).toNatClampNeg v_7), G.2.2) ++ w4 aS K s_8) H := hP
            have hD : va_D A (w1 aG K ((upd G.1 (v_7).toNatClampNeg (0 : Int32)), (upd G.2.1 (x5).toNatClampNeg v_7), G.2.2) ++ w4 aS K s_8) := hD
            refine lv_iinc (v := (x5 + (1 : Int32))) (lv' := [(5, .int (x5 + (1 : Int32))), (6, .int v_7), (0, .ref (aG 0)), (1, .ref (aS 0)), (2, .int x2), (3, .int x3), (4, .int x4)]) hx hb dX1_readSimple_75 hl (k := 6) rfl (by rfl) (by decide) rfl (fun ls hl => ?_)
            refine lv_goto (tgt := 17) hx hb dX1_readSimple_78 (by decide) ?_
            exact ih _ _ _ _ _ _ _ h _ _ _ hP hD hS (lv_sub hl [2, 3, 4, 5, 6, 0] rfl)
          · replace h := xi_f c9 h
            exact kX1_readSimple_48 C hlt _ ih _ _ _ h _ _ _ hP hD hS (lv_sub hl [] rfl)
set_option maxHeartbeats 4000000 in
set_option maxRecDepth 100000 in
theorem mX1_readSimple (l : Launch) (hlt : l.stackTraces = false) (D : va_G) (K : Nat → ClassId) (aG : Nat → Nat) (aS : Nat → Nat) (sz : Nat) (G : S1) (S : S4) (p2 : Int32) (r : (String × (S1 × S4)) ⊕ (Unit × (S1 × S4))) (h : fX1_readSimple G S p2 = some r) : xMet l yX1_readSimple cX1_readSimple 8 none 7 113 D K [.ref (aG 0), .ref (aS 0), .int p2] sz (w1 aG K G ++ w4 aS K S) (oX1_readSimple aG aS K r) := by
  refine xm_of _ (by decide +kernel) (Nat.le_of_ble_eq_true rfl) (fun p e s m args below meth c A C hP hD ls hl => ?_)
  have hl : lv_has ls 8 [(0, .ref (aG 0)), (1, .ref (aS 0)), (2, .int p2)] := hl
  have hS : va_S A s.heap s.heap [] := va_S.rf
  obtain ⟨hx, hb, hr, hml, hown, hK, hts, hA, hG, hlk, hte, hnm⟩ := id C
  replace h : xbnd (fX4_readNumber S (2 : Int32)) (fun E9 s_2 => .inl (E9, (G, s_2))) (fun v_1 s_2 => xbnd0 (fX1_symbolBits p2) (fun v_3 s_4 => fX1_readSimple_17 xF G s_2 p2 (v_1 + (1 : Int32)) v_3 (0 : Int32))) = some r := h
  refine lv_aload_n hx hb dX1_readSimple_0 rfl (lv_at hl 1 rfl) ?_
  refine lv_iconst (v := (2 : Int32)) hx hb dX1_readSimple_1 (by decide) ?_
  rcases xi_c h with ⟨E9, s_2, hc9, rfl⟩ | ⟨v_1, s_2, hc9, h⟩
  · exact xc_Vt (As := [.int (2 : Int32)]) (ws' := w1 aG K G ++ w4 aS K s_2) C (mX4_readNumber l hlt D K aS _ _ _ _ hc9) xgi_X1_25 xd_X4_readNumber ⟨Nat.le_of_ble_eq_true rfl, Nat.le_of_ble_eq_true rfl⟩ ⟨Nat.le_refl _, Nat.le_refl _⟩ hl rfl (Nat.le_of_ble_eq_true rfl) dX1_readSimple_2 hP hD hS 4 4 rfl rfl rfl [4, 5] rfl rfl [(4, w4 aS K s_2)] rfl rfl rfl (List.forall_mem_cons.mpr ⟨Nat.le_of_ble_eq_true rfl, (fun _ h => absurd h List.not_mem_nil)⟩)
  · refine xc_V (As := [.int (2 : Int32)]) (ws' := w1 aG K G ++ w4 aS K s_2) C (mX4_readNumber l hlt D K aS _ _ _ _ hc9) xgi_X1_25 xd_X4_readNumber ⟨Nat.le_of_ble_eq_true rfl, Nat.le_of_ble_eq_true rfl⟩ ⟨Nat.zero_le _, Nat.zero_le _⟩ hl rfl (Nat.le_of_ble_eq_true rfl) dX1_readSimple_2 hP hD hS 4 4 rfl rfl rfl [4, 5] rfl rfl [(4, w4 aS K s_2)] rfl rfl rfl (List.forall_mem_cons.mpr ⟨Nat.le_of_ble_eq_true rfl, (fun _ h => absurd h List.not_mem_nil)⟩) (fun H locs hP hD hS => ?_)
    refine W.eq (g2 := F0 m 5 ls [.int v_1]) rfl ?_
    refine lv_iconst (v := (1 : Int32)) hx hb dX1_readSimple_5 (by decide) ?_
    refine lv_iadd hx hb dX1_readSimple_6 ?_
    refine lv_istore_n (lv' := [(3, .int (v_1 + (1 : Int32))), (0, .ref (aG 0)), (1, .ref (aS 0)), (2, .int p2)]) hx hb dX1_readSimple_7 rfl hl (by decide) rfl (fun ls hl => ?_)
    refine lv_iload_n hx hb dX1_readSimple_8 rfl (lv_at hl 3 rfl) ?_
    obtain ⟨v_3, s_4, hc9, h⟩ := xi_d h
    refine xc_S (As := [.int p2]) (ws' := w1 aG K G ++ w4 aS K s_2) C (mX1_symbolBits l D K _ _ _ hc9) xgs_X1_49 ⟨rfl, xd_X1_symbolBits⟩ ⟨Nat.le_of_ble_eq_true rfl, Nat.le_of_ble_eq_true rfl⟩ ⟨Nat.zero_le _, Nat.zero_le _⟩ hl rfl (Nat.le_of_ble_eq_true rfl) dX1_readSimple_9 hP hD hS [] rfl rfl [] rfl rfl rfl (fun _ h => absurd h List.not_mem_nil) (fun H locs hP hD hS => ?_)
    refine W.eq (g2 := F0 m 12 ls [.int v_3]) rfl ?_
    refine lv_istore (lv' := [(4, .int v_3), (3, .int (v_1 + (1 : Int32))), (0, .ref (aG 0)), (1, .ref (aS 0)), (2, .int p2)]) hx hb dX1_readSimple_12 hl (by decide) rfl (fun ls hl => ?_)
    refine lv_iconst (v := (0 : Int32)) hx hb dX1_readSimple_14 (by decide) ?_
    refine lv_istore (lv' := [(5, .int (0 : Int32)), (4, .int v_3), (3, .int (v_1 + (1 : Int32))), (0, .ref (aG 0)), (1, .ref (aS 0)), (2, .int p2)]) hx hb dX1_readSimple_15 hl (by decide) rfl (fun ls hl => ?_)
    exact kX1_readSimple_17 C hlt _ _ _ _ _ _ _ _ h _ _ _ hP hD hS (lv_sub hl [3, 4, 5, 2, 1, 0] rfl)
abbrev oX1_readLengths (aG : Nat → Nat) (aS : Nat → Nat) (K : Nat → ClassId) (r : (String × (S1 × S4)) ⊕ (Unit × (S1 × S4))) : xO := match r with
  | .inl q => .inl (q.1, w1 aG K q.2.1 ++ w4 aS K q.2.2)
  | .inr q => .inr (none, w1 aG K q.2.1 ++ w4 aS K q.2.2)
def fX1_readLengths_67 (G : S1) (S : S4) (x3 : Int32) : Option ((String × (S1 × S4)) ⊕ (Unit × (S1 × S4))) := (if x3 ≤ 0 then some (.inr ((), (G, S))) else some (.inl ("java/lang/IllegalArgumentException", (G, S))))
def fX1_readLengths_47 (rec7 : S1 → S4 → Int32 → Int32 → Int32 → Option ((String × (S1 × S4)) ⊕ (Unit × (S1 × S4)))) (G : S1) (S : S4) (x2 : Int32) (x3 : Int32) (x4 : Int32) : Option ((String × (S1 × S4)) ⊕ (Unit × (S1 × S4))) := (if 0 ≤ x3 then rec7 G S x2 x3 (x4 + (1 : Int32)) else some (.inl ("java/lang/IllegalArgumentException", (G, S))))
def fX1_readLengths_7 : Nat → S1 → S4 → Int32 → Int32 → Int32 → Option ((String × (S1 × S4)) ⊕ (Unit × (S1 × S4)))
  | 0 => fun _ _ _ _ _ => none
  | fu + 1 => fun G S x2 x3 x4 => (if x2 ≤ x4 then fX1_readLengths_67 G S x3 else (if x3 ≤ 0 then fX1_readLengths_67 G S x3 else xbnd (fX4_readNumber S (3 : Int32)) (fun E9 s_2 => .inl (E9, (G, s_2))) (fun v_1 s_2 => (if v_1 ≤ 0 then fX1_readLengths_47 (fX1_readLengths_7 fu) G s_2 x2 x3 x4 else (if x4 < 0 ∨ 32 ≤ (x4).toNatClampNeg then none else fX1_readLengths_47 (fX1_readLengths_7 fu) ((upd G.1 (x4).toNatClampNeg v_1), G.2.1, G.2.2) s_2 x2 (x3 - ((128 : Int32) >>> (v_1 &&& 31))) x4)))))
def fX1_readLengths (G : S1) (S : S4) (p2 : Int32) : Option ((String × (S1 × S4)) ⊕ (Unit × (S1 × S4))) := fX1_readLengths_7 xF G S p2 (128 : Int32) (0 : Int32)
set_option maxHeartbeats 4000000 in
set_option maxRecDepth 100000 in
theorem kX1_readLengths_67 {p : Program} {l : Launch} {e : Env} {s : State} {m : MethodId} {args : Array Value} {below : List Frame} {meth : Method} {c : Code} {D : va_G} {K : Nat → ClassId} {A : Nat → Prop} {aG : Nat → Nat} {aS : Nat → Nat} (C : xC p s m args meth c cX1_readLengths 6 none yX1_readLengths D K A) (hlt : l.stackTraces = false) : ∀ (G : S1) (S : S4) (x3 : Int32) (r : (String × (S1 × S4)) ⊕ (Unit × (S1 × S4))), fX1_readLengths_67  G S x3 = some r → ∀ (H : Heap) (locs : List Loc) (ls : Array Slot), va_P D vwCl (w1 aG K G ++ w4 aS K S) H → va_D A (w1 aG K G ++ w4 aS K S) → va_S A s.heap H locs → lv_has ls 6 [(3, .int x3)] → W p l e (xR 7 113 (oX1_readLengths aG aS K r)) s m args below meth c H locs 0 0 (xQ below args s D K A (oX1_readLengths aG aS K r)) (F0 m 67 ls []) := by
  obtain ⟨hx, hb, hr, hml, hown, hK, hts, hA, hG, hlk, hte, hnm⟩ := id C
  intro G S x3 r h H locs ls hP hD hS hl
  replace h : (if x3 ≤ 0 then some (.inr ((), (G, S))) else some (.inl ("java/lang/IllegalArgumentException", (G, S)))) = some r := h
  refine lv_iload_n hx hb dX1_readLengths_67 rfl (lv_at hl 0 rfl) ?_
  refine lv_if_le (tgt := 81) hx hb dX1_readLengths_68 (by decide) (fun c9 => ?_) (fun c9 => ?_)
  · replace h := xi_t c9 h
    obtain rfl := Option.some.inj h
    exact xe_v C hP hD hS dX1_readLengths_81
  · replace h := xi_f c9 h
    obtain rfl := Option.some.inj h
    exact xe_throw C hlt (text := "a code has room left") xf_IllegalArgumentException xf_names xw_397 xw_44 (List.mem_of_getElem? (i := 10) rfl) xat_X1_46 xgd_X1_46 hl hP hD hS dX1_readLengths_71 dX1_readLengths_74 dX1_readLengths_75 dX1_readLengths_77 dX1_readLengths_80 (Nat.le_of_ble_eq_true rfl) (Nat.le_of_ble_eq_true rfl)
set_option maxHeartbeats 4000000 in
set_option maxRecDepth 100000 in
theorem kX1_readLengths_47 {p : Program} {l : Launch} {e : Env} {s : State} {m : MethodId} {args : Array Value} {below : List Frame} {meth : Method} {c : Code} {D : va_G} {K : Nat → ClassId} {A : Nat → Prop} {aG : Nat → Nat} {aS : Nat → Nat} (C : xC p s m args meth c cX1_readLengths 6 none yX1_readLengths D K A) (hlt : l.stackTraces = false) (rec7 : S1 → S4 → Int32 → Int32 → Int32 → Option ((String × (S1 × S4)) ⊕ (Unit × (S1 × S4)))) (hrec7 : ∀ (G : S1) (S : S4) (x2 : Int32) (x3 : Int32) (x4 : Int32) (r : (String × (S1 × S4)) ⊕ (Unit × (S1 × S4))), rec7 G S x2 x3 x4 = some r → ∀ (H : Heap) (locs : List Loc) (ls : Array Slot), va_P D vwCl (w1 aG K G ++ w4 aS K S) H → va_D A (w1 aG K G ++ w4 aS K S) → va_S A s.heap H locs → lv_has ls 6 [(0, .ref (aG 0)), (1, .ref (aS 0)), (2, .int x2), (3, .int x3), (4, .int x4)] → W p l e (xR 7 113 (oX1_readLengths aG aS K r)) s m args below meth c H locs 0 0 (xQ below args s D K A (oX1_readLengths aG aS K r)) (F0 m 7 ls [])) : ∀ (G : S1) (S : S4) (x2 : Int32) (x3 : Int32) (x4 : Int32) (r : (String × (S1 × S4)) ⊕ (Unit × (S1 × S4))), fX1_readLengths_47  rec7 G S x2 x3 x4 = some r → ∀ (H : Heap) (locs : List Loc) (ls : Array Slot), va_P D vwCl (w1 aG K G ++ w4 aS K S) H → va_D A (w1 aG K G ++ w4 aS K S) → va_S A s.heap H locs → lv_has ls 6 [(0, .ref (aG 0)), (1, .ref (aS 0)), (2, .int x2), (3, .int x3), (4, .int x4)] → W p l e (xR 7 113 (oX1_readLengths aG aS K r)) s m args below meth c H locs 0 0 (xQ below args s D K A (oX1_readLengths aG aS K r)) (F0 m 47 ls []) := by
  obtain ⟨hx, hb, hr, hml, hown, hK, hts, hA, hG, hlk, hte, hnm⟩ := id C
  intro G S x2 x3 x4 r h H locs ls hP hD hS hl
  replace h : (if 0 ≤ x3 then rec7 G S x2 x3 (x4 + (1 : Int32)) else some (.inl ("java/lang/IllegalArgumentException", (G, S)))) = some r := h
  refine lv_iload_n hx hb dX1_readLengths_47 rfl (lv_at hl 3 rfl) ?_
  refine lv_if_ge (tgt := 61) hx hb dX1_readLengths_48 (by decide) (fun c9 => ?_) (fun c9 => ?_)
  · replace h := xi_t c9 h
    refine lv_iinc (v := (x4 + (1 : Int32))) (lv' := [(4, .int (x4 + (1 : Int32))), (0, .ref (aG 0)), (1, .ref (aS 0)), (2, .int x2), (3, .int x3)]) hx hb dX1_readLengths_61 hl (k := 4) rfl (by rfl) (by decide) rfl (fun ls hl => ?_)
    refine lv_goto (tgt := 7) hx hb dX1_readLengths_64 (by decide) ?_
    exact hrec7 _ _ _ _ _ _ h _ _ _ hP hD hS (lv_sub hl [1, 2, 3, 4, 0] rfl)
  · replace h := xi_f c9 h
    obtain rfl := Option.some.inj h
    exact xe_throw C hlt (text := "a code has too little room") xf_IllegalArgumentException xf_names xw_397 xw_44 (List.mem_of_getElem? (i := 9) rfl) xat_X1_46 xgd_X1_46 hl hP hD hS dX1_readLengths_51 dX1_readLengths_54 dX1_readLengths_55 dX1_readLengths_57 dX1_readLengths_60 (Nat.le_of_ble_eq_true rfl) (Nat.le_of_ble_eq_true rfl)
set_option maxHeartbeats 4000000 in
set_option maxRecDepth 100000 in
theorem kX1_readLengths_7 {p : Program} {l : Launch} {e : Env} {s : State} {m : MethodId} {args : Array Value} {below : List Frame} {meth : Method} {c : Code} {D : va_G} {K : Nat → ClassId} {A : Nat → Prop} {aG : Nat → Nat} {aS : Nat → Nat} (C : xC p s m args meth c cX1_readLengths 6 none yX1_readLengths D K A) (hlt : l.stackTraces = false) : ∀ fu : Nat, ∀ (G : S1) (S : S4) (x2 : Int32) (x3 : Int32) (x4 : Int32) (r : (String × (S1 × S4)) ⊕ (Unit × (S1 × S4))), fX1_readLengths_7 fu G S x2 x3 x4 = some r → ∀ (H : Heap) (locs : List Loc) (ls : Array Slot), va_P D vwCl (w1 aG K G ++ w4 aS K S) H → va_D A (w1 aG K G ++ w4 aS K S) → va_S A s.heap H locs → lv_has ls 6 [(0, .ref (aG 0)), (1, .ref (aS 0)), (2, .int x2), (3, .int x3), (4, .int x4)] → W p l e (xR 7 113 (oX1_readLengths aG aS K r)) s m args below meth c H locs 0 0 (xQ below args s D K A (oX1_readLengths aG aS K r)) (F0 m 7 ls []) := by
  obtain ⟨hx, hb, hr, hml, hown, hK, hts, hA, hG, hlk, hte, hnm⟩ := id C
  intro fu
  induction fu with
  | zero =>
    intro G S x2 x3 x4 r h
    exact nomatch (show (none : Option ((String × (S1 × S4)) ⊕ (Unit × (S1 × S4)))) = some r from h)
  | succ fu ih =>
    intro G S x2 x3 x4 r h H locs ls hP hD hS hl
    replace h : (if x2 ≤ x4 then fX1_readLengths_67 G S x3 else (if x3 ≤ 0 then fX1_readLengths_67 G S x3 else xbnd (fX4_readNumber S (3 : Int32)) (fun E9 s_2 => .inl (E9, (G, s_2))) (fun v_1 s_2 => (if v_1 ≤ 0 then fX1_readLengths_47 (fX1_readLengths_7 fu) G s_2 x2 x3 x4 else (if x4 < 0 ∨ 32 ≤ (x4).toNatClampNeg then none else fX1_readLengths_47 (fX1_readLengths_7 fu) ((upd G.1 (x4).toNatClampNeg v_1), G.2.1, G.2.2) s_2 x2 (x3 - ((128 : Int32) >>> (v_1 &&& 31))) x4))))) = some r := h
    refine lv_iload hx hb dX1_readLengths_7 (lv_at hl 4 rfl) ?_
    refine lv_iload_n hx hb dX1_readLengths_9 rfl (lv_at hl 2 rfl) ?_
    refine lv_icmp_ge (tgt := 67) hx hb dX1_readLengths_10 (by decide) (fun c9 => ?_) (fun c9 => ?_)
    · replace h := xi_t c9 h
      exact kX1_readLengths_67 C hlt _ _ _ _ h _ _ _ hP hD hS (lv_sub hl [3] rfl)
    · replace h := xi_f c9 h
      refine lv_iload_n hx hb dX1_readLengths_13 rfl (lv_at hl 3 rfl) ?_
      refine lv_if_le (tgt := 67) hx hb dX1_readLengths_14 (by decide) (fun c9 => ?_) (fun c9 => ?_)
      · replace h := xi_t c9 h
        exact kX1_readLengths_67 C hlt _ _ _ _ h _ _ _ hP hD hS (lv_sub hl [3] rfl)
      · replace h := xi_f c9 h
        refine lv_aload_n hx hb dX1_readLengths_17 rfl (lv_at hl 1 rfl) ?_
        refine lv_iconst (v := (3 : Int32)) hx hb dX1_readLengths_18 (by decide) ?_
        rcases xi_c h with ⟨E9, s_2, hc9, rfl⟩ | ⟨v_1, s_2, hc9, h⟩
        · exact xc_Vt (As := [.int (3 : Int32)]) (ws' := w1 aG K G ++ w4 aS K s_2) C (mX4_readNumber l hlt D K aS _ _ _ _ hc9) xgi_X1_25 xd_X4_readNumber ⟨Nat.le_of_ble_eq_true rfl, Nat.le_of_ble_eq_true rfl⟩ ⟨Nat.le_refl _, Nat.le_refl _⟩ hl rfl (Nat.le_of_ble_eq_true rfl) dX1_readLengths_19 hP hD hS 4 4 rfl rfl rfl [4, 5] rfl rfl [(4, w4 aS K s_2)] rfl rfl rfl (List.forall_mem_cons.mpr ⟨Nat.le_of_ble_eq_true rfl, (fun _ h => absurd h List.not_mem_nil)⟩)
        · refine xc_V (As := [.int (3 : Int32)]) (ws' := w1 aG K G ++ w4 aS K s_2) C (mX4_readNumber l hlt D K aS _ _ _ _ hc9) xgi_X1_25 xd_X4_readNumber ⟨Nat.le_of_ble_eq_true rfl, Nat.le_of_ble_eq_true rfl⟩ ⟨Nat.zero_le _, Nat.zero_le _⟩ hl rfl (Nat.le_of_ble_eq_true rfl) dX1_readLengths_19 hP hD hS 4 4 rfl rfl rfl [4, 5] rfl rfl [(4, w4 aS K s_2)] rfl rfl rfl (List.forall_mem_cons.mpr ⟨Nat.le_of_ble_eq_true rfl, (fun _ h => absurd h List.not_mem_nil)⟩) (fun H locs hP hD hS => ?_)
          refine W.eq (g2 := F0 m 22 ls [.int v_1]) rfl ?_
          refine lv_istore (lv' := [(5, .int v_1), (0, .ref (aG 0)), (1, .ref (aS 0)), (2, .int x2), (3, .int x3), (4, .int x4)]) hx hb dX1_readLengths_22 hl (by decide) rfl (fun ls hl => ?_)
          refine lv_iload hx hb dX1_readLengths_24 (lv_at hl 0 rfl) ?_
          refine lv_if_le (tgt := 47) hx hb dX1_readLengths_26 (by decide) (fun c9 => ?_) (fun c9 => ?_)
          · replace h := xi_t c9 h
            exact kX1_readLengths_47 C hlt _ ih _ _ _ _ _ _ h _ _ _ hP hD hS (lv_sub hl [1, 2, 3, 4, 5] rfl)
          · replace h := xi_f c9 h
            refine lv_iload_n hx hb dX1_readLengths_29 rfl (lv_at hl 4 rfl) ?_
            refine lv_sipush (v := (128 : Int32)) hx hb dX1_readLengths_30 (by decide) ?_
            refine lv_iload hx hb dX1_readLengths_33 (lv_at hl 0 rfl) ?_
            refine lv_ishr hx hb dX1_readLengths_35 ?_
            refine lv_isub hx hb dX1_readLengths_36 ?_
            refine lv_istore_n (lv' := [(3, .int (x3 - ((128 : Int32) >>> (v_1 &&& 31)))), (5, .int v_1), (0, .ref (aG 0)), (1, .ref (aS 0)), (2, .int x2), (4, .int x4)]) hx hb dX1_readLengths_37 rfl hl (by decide) rfl (fun ls hl => ?_)
            refine lv_aload_n hx hb dX1_readLengths_38 rfl (lv_at hl 2 rfl) ?_
            refine va_get (D := D) (ci := 1) (v := .ref (aG 1)) (C := RX1) (T := TX1) (N := 3) hx hb hts xu_X1 hown hK hP 0 rfl rfl 0 (by decide) (hts _ xw_95) (fun _ h9 => h9) rfl dX1_readLengths_39 ?_
            refine lv_iload hx hb dX1_readLengths_42 (lv_at hl 5 rfl) ?_
            refine lv_iload hx hb dX1_readLengths_44 (lv_at hl 1 rfl) ?_
            obtain ⟨hi9, h⟩ := xi_g h
            refine va_iast hx hb hK hP hD hS 1 0 rfl rfl hi9 dX1_readLengths_46 (fun H locs hP hD hS => ?_)
            have hP : va_P D vwCl (w1 aG K ((upd G.1 (x4).toNatClampNeg v_1), G.2.1, G.2.2) ++ w4 aS K s_2) H := hP
            have hD : va_D A (w1 aG K ((upd G.1 (x4).toNatClampNeg v_1), G.2.1, G.2.2) ++ w4 aS K s_2) := hD
            exact kX1_readLengths_47 C hlt _ ih _ _ _ _ _ _ h _ _ _ hP hD hS (lv_sub hl [2, 3, 4, 0, 5] rfl)
set_option maxHeartbeats 4000000 in
set_option maxRecDepth 100000 in
theorem mX1_readLengths (l : Launch) (hlt : l.stackTraces = false) (D : va_G) (K : Nat → ClassId) (aG : Nat → Nat) (aS : Nat → Nat) (sz : Nat) (G : S1) (S : S4) (p2 : Int32) (r : (String × (S1 × S4)) ⊕ (Unit × (S1 × S4))) (h : fX1_readLengths G S p2 = some r) : xMet l yX1_readLengths cX1_readLengths 6 none 7 113 D K [.ref (aG 0), .ref (aS 0), .int p2] sz (w1 aG K G ++ w4 aS K S) (oX1_readLengths aG aS K r) := by
  refine xm_of _ (by decide +kernel) (Nat.le_of_ble_eq_true rfl) (fun p e s m args below meth c A C hP hD ls hl => ?_)
  have hl : lv_has ls 6 [(0, .ref (aG 0)), (1, .ref (aS 0)), (2, .int p2)] := hl
  have hS : va_S A s.heap s.heap [] := va_S.rf
  obtain ⟨hx, hb, hr, hml, hown, hK, hts, hA, hG, hlk, hte, hnm⟩ := id C
  replace h : fX1_readLengths_7 xF G S p2 (128 : Int32) (0 : Int32) = some r := h
  refine lv_sipush (v := (128 : Int32)) hx hb dX1_readLengths_0 (by decide) ?_
  refine lv_istore_n (lv' := [(3, .int (128 : Int32)), (0, .ref (aG 0)), (1, .ref (aS 0)), (2, .int p2)]) hx hb dX1_readLengths_3 rfl hl (by decide) rfl (fun ls hl => ?_)
  refine lv_iconst (v := (0 : Int32)) hx hb dX1_readLengths_4 (by decide) ?_
  refine lv_istore (lv' := [(4, .int (0 : Int32)), (3, .int (128 : Int32)), (0, .ref (aG 0)), (1, .ref (aS 0)), (2, .int p2)]) hx hb dX1_readLengths_5 hl (by decide) rfl (fun ls hl => ?_)
  exact kX1_readLengths_7 C hlt _ _ _ _ _ _ _ h _ _ _ hP hD hS (lv_sub hl [2, 3, 4, 1, 0] rfl)
abbrev oX1_orderSymbols (aG : Nat → Nat) (K : Nat → ClassId) (q : Unit × (S1)) : xO := .inr (none, w1 aG K q.2)
def fX1_orderSymbols_16 (rec4 : S1 → Int32 → Int32 → Int32 → Option (Unit × (S1))) : Nat → S1 → Int32 → Int32 → Int32 → Int32 → Int32 → Option (Unit × (S1))
  | 0 => fun _ _ _ _ _ _ => none
  | fu + 1 => fun G x1 x2 x3 x4 x5 => (if x1 ≤ x5 then (if x3 < 0 ∨ 8 ≤ (x3).toNatClampNeg then none else rec4 (G.1, G.2.1, (upd G.2.2 (x3).toNatClampNeg (x2 - x4))) x1 x2 (x3 + (1 : Int32))) else (if x5 < 0 ∨ 32 ≤ (x5).toNatClampNeg then none else (if (G.1 (x5).toNatClampNeg) = x3 then (if x2 < 0 ∨ 32 ≤ (x2).toNatClampNeg then none else fX1_orderSymbols_16 rec4 fu (G.1, (upd G.2.1 (x2).toNatClampNeg x5), G.2.2) x1 (x2 + (1 : Int32)) x3 x4 (x5 + (1 : Int32))) else fX1_orderSymbols_16 rec4 fu G x1 x2 x3 x4 (x5 + (1 : Int32)))))
def fX1_orderSymbols_4 : Nat → S1 → Int32 → Int32 → Int32 → Option (Unit × (S1))
  | 0 => fun _ _ _ _ => none
  | fu + 1 => fun G x1 x2 x3 => (if (7 : Int32) < x3 then some ((), G) else fX1_orderSymbols_16 (fX1_orderSymbols_4 fu) xF G x1 x2 x3 x2 (0 : Int32))
def fX1_orderSymbols (G : S1) (p1 : Int32) : Option (Unit × (S1)) := fX1_orderSymbols_4 xF G p1 (0 : Int32) (0 : Int32)
set_option maxHeartbeats 4000000 in
set_option maxRecDepth 100000 in
theorem kX1_orderSymbols_16 {p : Program} {l : Launch} {e : Env} {s : State} {m : MethodId} {args : Array Value} {below : List Frame} {meth : Method} {c : Code} {D : va_G} {K : Nat → ClassId} {A : Nat → Prop} {aG : Nat → Nat} (C : xC p s m args meth c cX1_orderSymbols 6 none yX1_orderSymbols D K A) (rec4 : S1 → Int32 → Int32 → Int32 → Option (Unit × (S1))) (hrec4 : ∀ (G : S1) (x1 : Int32) (x2 : Int32) (x3 : Int32) (r : Unit × (S1)), rec4 G x1 x2 x3 = some r → ∀ (H : Heap) (locs : List Loc) (ls : Array Slot), va_P D vwCl (w1 aG K G) H → va_D A (w1 aG K G) → va_S A s.heap H locs → lv_has ls 6 [(0, .ref (aG 0)), (1, .int x1), (2, .int x2), (3, .int x3)] → W p l e (xR 0 0 (oX1_orderSymbols aG K r)) s m args below meth c H locs 0 0 (xQ below args s D K A (oX1_orderSymbols aG K r)) (F0 m 4 ls [])) : ∀ fu : Nat, ∀ (G : S1) (x1 : Int32) (x2 : Int32) (x3 : Int32) (x4 : Int32) (x5 : Int32) (r : Unit × (S1)), fX1_orderSymbols_16  rec4 fu G x1 x2 x3 x4 x5 = some r → ∀ (H : Heap) (locs : List Loc) (ls : Array Slot), va_P D vwCl (w1 aG K G) H → va_D A (w1 aG K G) → va_S A s.heap H locs → lv_has ls 6 [(0, .ref (aG 0)), (1, .int x1), (2, .int x2), (3, .int x3), (4, .int x4), (5, .int x5)] → W p l e (xR 0 0 (oX1_orderSymbols aG K r)) s m args below meth c H locs 0 0 (xQ below args s D K A (oX1_orderSymbols aG K r)) (F0 m 16 ls []) := by
  obtain ⟨hx, hb, hr, hml, hown, hK, hts, hA, hG, hlk, hte, hnm⟩ := id C
  intro fu
  induction fu with
  | zero =>
    intro G x1 x2 x3 x4 x5 r h
    exact nomatch (show (none : Option (Unit × (S1))) = some r from h)
  | succ fu ih =>
    intro G x1 x2 x3 x4 x5 r h H locs ls hP hD hS hl
    replace h : (if x1 ≤ x5 then (if x3 < 0 ∨ 8 ≤ (x3).toNatClampNeg then none else rec4 (G.1, G.2.1, (upd G.2.2 (x3).toNatClampNeg (x2 - x4))) x1 x2 (x3 + (1 : Int32))) else (if x5 < 0 ∨ 32 ≤ (x5).toNatClampNeg then none else (if (G.1 (x5).toNatClampNeg) = x3 then (if x2 < 0 ∨ 32 ≤ (x2).toNatClampNeg then none else fX1_orderSymbols_16 rec4 fu (G.1, (upd G.2.1 (x2).toNatClampNeg x5), G.2.2) x1 (x2 + (1 : Int32)) x3 x4 (x5 + (1 : Int32))) else fX1_orderSymbols_16 rec4 fu G x1 x2 x3 x4 (x5 + (1 : Int32))))) = some r := h
    refine lv_iload hx hb dX1_orderSymbols_16 (lv_at hl 5 rfl) ?_
    refine lv_iload_n hx hb dX1_orderSymbols_18 rfl (lv_at hl 1 rfl) ?_
    refine lv_icmp_ge (tgt := 50) hx hb dX1_orderSymbols_19 (by decide) (fun c9 => ?_) (fun c9 => ?_)
    · replace h := xi_t c9 h
      refine lv_aload_n hx hb dX1_orderSymbols_50 rfl (lv_at hl 0 rfl) ?_
      refine va_get (D := D) (ci := 1) (v := .ref (aG 3)) (C := RX1) (T := TX1) (N := 3) hx hb hts xu_X1 hown hK hP 0 rfl rfl 2 (by decide) (hts _ xw_97) (fun _ h9 => h9) rfl dX1_orderSymbols_51 ?_
      refine lv_iload_n hx hb dX1_orderSymbols_54 rfl (lv_at hl 3 rfl) ?_
      refine lv_iload_n hx hb dX1_orderSymbols_55 rfl (lv_at hl 2 rfl) ?_
      refine lv_iload hx hb dX1_orderSymbols_56 (lv_at hl 4 rfl) ?_
      refine lv_isub hx hb dX1_orderSymbols_58 ?_
      obtain ⟨hi9, h⟩ := xi_g h
      refine va_iast hx hb hK hP hD hS 3 0 rfl rfl hi9 dX1_orderSymbols_59 (fun H locs hP hD hS => ?_)
      have hP : va_P D vwCl (w1 aG K (G.1, G.2.1, (upd G.2.2 (x3).toNatClampNeg (x2 - x4)))) H := hP
      have hD : va_D A (w1 aG K (G.1, G.2.1, (upd G.2.2 (x3).toNatClampNeg (x2 - x4)))) := hD
      refine lv_iinc (v := (x3 + (1 : Int32))) (lv' := [(3, .int (x3 + (1 : Int32))), (0, .ref (aG 0)), (1, .int x1), (2, .int x2), (4, .int x4), (5, .int x5)]) hx hb dX1_orderSymbols_60 hl (k := 3) rfl (by rfl) (by decide) rfl (fun ls hl => ?_)
      refine lv_goto (tgt := 4) hx hb dX1_orderSymbols_63 (by decide) ?_
      exact hrec4 _ _ _ _ _ h _ _ _ hP hD hS (lv_sub hl [1, 2, 3, 0] rfl)
    · replace h := xi_f c9 h
      refine lv_aload_n hx hb dX1_orderSymbols_22 rfl (lv_at hl 0 rfl) ?_
      refine va_get (D := D) (ci := 1) (v := .ref (aG 1)) (C := RX1) (T := TX1) (N := 3) hx hb hts xu_X1 hown hK hP 0 rfl rfl 0 (by decide) (hts _ xw_95) (fun _ h9 => h9) rfl dX1_orderSymbols_23 ?_
      refine lv_iload hx hb dX1_orderSymbols_26 (lv_at hl 5 rfl) ?_
      obtain ⟨hi9, h⟩ := xi_g h
      refine va_iald hx hb hK hP 1 0 rfl rfl hi9 dX1_orderSymbols_28 ?_
      refine lv_iload_n hx hb dX1_orderSymbols_29 rfl (lv_at hl 3 rfl) ?_
      refine lv_icmp_ne (tgt := 44) hx hb dX1_orderSymbols_30 (by decide) (fun c9 => ?_) (fun c9 => ?_)
      · replace h := xi_f c9 h
        refine lv_iinc (v := (x5 + (1 : Int32))) (lv' := [(5, .int (x5 + (1 : Int32))), (0, .ref (aG 0)), (1, .int x1), (2, .int x2), (3, .int x3), (4, .int x4)]) hx hb dX1_orderSymbols_44 hl (k := 5) rfl (by rfl) (by decide) rfl (fun ls hl => ?_)
        refine lv_goto (tgt := 16) hx hb dX1_orderSymbols_47 (by decide) ?_
        exact ih _ _ _ _ _ _ _ h _ _ _ hP hD hS (lv_sub hl [1, 2, 3, 4, 5, 0] rfl)
      · replace h := xi_t c9 h
        refine lv_aload_n hx hb dX1_orderSymbols_33 rfl (lv_at hl 0 rfl) ?_
        refine va_get (D := D) (ci := 1) (v := .ref (aG 2)) (C := RX1) (T := TX1) (N := 3) hx hb hts xu_X1 hown hK hP 0 rfl rfl 1 (by decide) (hts _ xw_96) (fun _ h9 => h9) rfl dX1_orderSymbols_34 ?_
        refine lv_iload_n hx hb dX1_orderSymbols_37 rfl (lv_at hl 2 rfl) ?_
        refine lv_iload hx hb dX1_orderSymbols_38 (lv_at hl 5 rfl) ?_
        obtain ⟨hi9, h⟩ := xi_g h
        refine va_iast hx hb hK hP hD hS 2 0 rfl rfl hi9 dX1_orderSymbols_40 (fun H locs hP hD hS => ?_)
        have hP : va_P D vwCl (w1 aG K (G.1, (upd G.2.1 (x2).toNatClampNeg x5), G.2.2)) H := hP
        have hD : va_D A (w1 aG K (G.1, (upd G.2.1 (x2).toNatClampNeg x5), G.2.2)) := hD
        refine lv_iinc (v := (x2 + (1 : Int32))) (lv' := [(2, .int (x2 + (1 : Int32))), (0, .ref (aG 0)), (1, .int x1), (3, .int x3), (4, .int x4), (5, .int x5)]) hx hb dX1_orderSymbols_41 hl (k := 2) rfl (by rfl) (by decide) rfl (fun ls hl => ?_)
        refine lv_iinc (v := (x5 + (1 : Int32))) (lv' := [(5, .int (x5 + (1 : Int32))), (2, .int (x2 + (1 : Int32))), (0, .ref (aG 0)), (1, .int x1), (3, .int x3), (4, .int x4)]) hx hb dX1_orderSymbols_44 hl (k := 5) rfl (by rfl) (by decide) rfl (fun ls hl => ?_)
        refine lv_goto (tgt := 16) hx hb dX1_orderSymbols_47 (by decide) ?_
        exact ih _ _ _ _ _ _ _ h _ _ _ hP hD hS (lv_sub hl [2, 3, 1, 4, 5, 0] rfl)
set_option maxHeartbeats 4000000 in
set_option maxRecDepth 100000 in
theorem kX1_orderSymbols_4 {p : Program} {l : Launch} {e : Env} {s : State} {m : MethodId} {args : Array Value} {below : List Frame} {meth : Method} {c : Code} {D : va_G} {K : Nat → ClassId} {A : Nat → Prop} {aG : Nat → Nat} (C : xC p s m args meth c cX1_orderSymbols 6 none yX1_orderSymbols D K A) : ∀ fu : Nat, ∀ (G : S1) (x1 : Int32) (x2 : Int32) (x3 : Int32) (r : Unit × (S1)), fX1_orderSymbols_4 fu G x1 x2 x3 = some r → ∀ (H : Heap) (locs : List Loc) (ls : Array Slot), va_P D vwCl (w1 aG K G) H → va_D A (w1 aG K G) → va_S A s.heap H locs → lv_has ls 6 [(0, .ref (aG 0)), (1, .int x1), (2, .int x2), (3, .int x3)] → W p l e (xR 0 0 (oX1_orderSymbols aG K r)) s m args below meth c H locs 0 0 (xQ below args s D K A (oX1_orderSymbols aG K r)) (F0 m 4 ls []) := by
  obtain ⟨hx, hb, hr, hml, hown, hK, hts, hA, hG, hlk, hte, hnm⟩ := id C
  intro fu
  induction fu with
  | zero =>
    intro G x1 x2 x3 r h
    exact nomatch (show (none : Option (Unit × (S1))) = some r from h)
  | succ fu ih =>
    intro G x1 x2 x3 r h H locs ls hP hD hS hl
    replace h : (if (7 : Int32) < x3 then some ((), G) else fX1_orderSymbols_16 (fX1_orderSymbols_4 fu) xF G x1 x2 x3 x2 (0 : Int32)) = some r := h
    refine lv_iload_n hx hb dX1_orderSymbols_4 rfl (lv_at hl 3 rfl) ?_
    refine lv_bipush (v := (7 : Int32)) hx hb dX1_orderSymbols_5 (by decide) ?_
    refine lv_icmp_gt (tgt := 66) hx hb dX1_orderSymbols_7 (by decide) (fun c9 => ?_) (fun c9 => ?_)
    · replace h := xi_t c9 h
      obtain rfl := Option.some.inj h
      exact xe_v C hP hD hS dX1_orderSymbols_66
    · replace h := xi_f c9 h
      refine lv_iload_n hx hb dX1_orderSymbols_10 rfl (lv_at hl 2 rfl) ?_
      refine lv_istore (lv' := [(4, .int x2), (0, .ref (aG 0)), (1, .int x1), (2, .int x2), (3, .int x3)]) hx hb dX1_orderSymbols_11 hl (by decide) rfl (fun ls hl => ?_)
      refine lv_iconst (v := (0 : Int32)) hx hb dX1_orderSymbols_13 (by decide) ?_
      refine lv_istore (lv' := [(5, .int (0 : Int32)), (4, .int x2), (0, .ref (aG 0)), (1, .int x1), (2, .int x2), (3, .int x3)]) hx hb dX1_orderSymbols_14 hl (by decide) rfl (fun ls hl => ?_)
      exact kX1_orderSymbols_16 C _ ih _ _ _ _ _ _ _ _ h _ _ _ hP hD hS (lv_sub hl [2, 3, 4, 5, 1, 0] rfl)
set_option maxHeartbeats 4000000 in
set_option maxRecDepth 100000 in
theorem mX1_orderSymbols (l : Launch) (D : va_G) (K : Nat → ClassId) (aG : Nat → Nat) (sz : Nat) (G : S1) (p1 : Int32) (r : Unit × (S1)) (h : fX1_orderSymbols G p1 = some r) : xMet l yX1_orderSymbols cX1_orderSymbols 6 none 0 0 D K [.ref (aG 0), .int p1] sz (w1 aG K G) (oX1_orderSymbols aG K r) := by
  refine xm_of _ (by decide +kernel) (Nat.le_of_ble_eq_true rfl) (fun p e s m args below meth c A C hP hD ls hl => ?_)
  have hl : lv_has ls 6 [(0, .ref (aG 0)), (1, .int p1)] := hl
  have hS : va_S A s.heap s.heap [] := va_S.rf
  obtain ⟨hx, hb, hr, hml, hown, hK, hts, hA, hG, hlk, hte, hnm⟩ := id C
  replace h : fX1_orderSymbols_4 xF G p1 (0 : Int32) (0 : Int32) = some r := h
  refine lv_iconst (v := (0 : Int32)) hx hb dX1_orderSymbols_0 (by decide) ?_
  refine lv_istore_n (lv' := [(2, .int (0 : Int32)), (0, .ref (aG 0)), (1, .int p1)]) hx hb dX1_orderSymbols_1 rfl hl (by decide) rfl (fun ls hl => ?_)
  refine lv_iconst (v := (0 : Int32)) hx hb dX1_orderSymbols_2 (by decide) ?_
  refine lv_istore_n (lv' := [(3, .int (0 : Int32)), (2, .int (0 : Int32)), (0, .ref (aG 0)), (1, .int p1)]) hx hb dX1_orderSymbols_3 rfl hl (by decide) rfl (fun ls hl => ?_)
  exact kX1_orderSymbols_4 C _ _ _ _ _ _ h _ _ _ hP hD hS (lv_sub hl [2, 3, 1, 0] rfl)
abbrev oX1_readCode (aG : Nat → Nat) (aS : Nat → Nat) (K : Nat → ClassId) (r : (String × (S1 × S4)) ⊕ (Unit × (S1 × S4))) : xO := match r with
  | .inl q => .inl (q.1, w1 aG K q.2.1 ++ w4 aS K q.2.2)
  | .inr q => .inr (none, w1 aG K q.2.1 ++ w4 aS K q.2.2)
def fX1_readCode_32 (G : S1) (S : S4) (x2 : Int32) : Option ((String × (S1 × S4)) ⊕ (Unit × (S1 × S4))) := xbnd0 (fX1_orderSymbols G x2) (fun v_9 s_10 => some (.inr ((), (s_10, S))))
def fX1_readCode (G : S1) (S : S4) (p2 : Int32) : Option ((String × (S1 × S4)) ⊕ (Unit × (S1 × S4))) := xbnd0 (fJ7_fill_53178 32 G.1 (-1 : Int32)) (fun v_1 s_2 => xbnd (fX4_readNumber S (1 : Int32)) (fun E9 s_4 => .inl (E9, ((s_2, G.2.1, G.2.2), s_4))) (fun v_3 s_4 => (if v_3 = (1 : Int32) then xbnd (fX1_readSimple (s_2, G.2.1, G.2.2) s_4 p2) (fun E9 s_8 => .inl (E9, (s_8.1, s_8.2))) (fun v_7 s_8 => fX1_readCode_32 s_8.1 s_8.2 p2) else xbnd (fX1_readLengths (s_2, G.2.1, G.2.2) s_4 p2) (fun E9 s_6 => .inl (E9, (s_6.1, s_6.2))) (fun v_5 s_6 => fX1_readCode_32 s_6.1 s_6.2 p2))))
set_option maxHeartbeats 4000000 in
set_option maxRecDepth 100000 in
theorem kX1_readCode_32 {p : Program} {l : Launch} {e : Env} {s : State} {m : MethodId} {args : Array Value} {below : List Frame} {meth : Method} {c : Code} {D : va_G} {K : Nat → ClassId} {A : Nat → Prop} {aG : Nat → Nat} {aS : Nat → Nat} (C : xC p s m args meth c cX1_readCode 3 none yX1_readCode D K A) (hlt : l.stackTraces = false) : ∀ (G : S1) (S : S4) (x2 : Int32) (r : (String × (S1 × S4)) ⊕ (Unit × (S1 × S4))), fX1_readCode_32  G S x2 = some r → ∀ (H : Heap) (locs : List Loc) (ls : Array Slot), va_P D vwCl (w1 aG K G ++ w4 aS K S) H → va_D A (w1 aG K G ++ w4 aS K S) → va_S A s.heap H locs → lv_has ls 3 [(0, .ref (aG 0)), (2, .int x2)] → W p l e (xR 8 140 (oX1_readCode aG aS K r)) s m args below meth c H locs 0 0 (xQ below args s D K A (oX1_readCode aG aS K r)) (F0 m 32 ls []) := by
  obtain ⟨hx, hb, hr, hml, hown, hK, hts, hA, hG, hlk, hte, hnm⟩ := id C
  intro G S x2 r h H locs ls hP hD hS hl
  replace h : xbnd0 (fX1_orderSymbols G x2) (fun v_9 s_10 => some (.inr ((), (s_10, S)))) = some r := h
  refine lv_aload_n hx hb dX1_readCode_32 rfl (lv_at hl 0 rfl) ?_
  refine lv_iload_n hx hb dX1_readCode_33 rfl (lv_at hl 1 rfl) ?_
  obtain ⟨v_9, s_10, hc9, h⟩ := xi_d h
  refine xc_V (As := [.int x2]) (ws' := w1 aG K s_10 ++ w4 aS K S) C (mX1_orderSymbols l D K aG _ _ _ _ hc9) xgi_X1_38 xd_X1_orderSymbols ⟨Nat.le_of_ble_eq_true rfl, Nat.le_of_ble_eq_true rfl⟩ ⟨Nat.zero_le _, Nat.zero_le _⟩ hl rfl (Nat.le_of_ble_eq_true rfl) dX1_readCode_34 hP hD hS 0 1 rfl rfl rfl [0, 1, 2, 3] rfl rfl [(0, w1 aG K s_10)] rfl rfl rfl (List.forall_mem_cons.mpr ⟨Nat.le_of_ble_eq_true rfl, (fun _ h => absurd h List.not_mem_nil)⟩) (fun H locs hP hD hS => ?_)
  refine W.eq (g2 := F0 m 37 ls []) rfl ?_
  obtain rfl := Option.some.inj h
  exact xe_v C hP hD hS dX1_readCode_37
set_option maxHeartbeats 4000000 in
set_option maxRecDepth 100000 in
theorem mX1_readCode (l : Launch) (hlt : l.stackTraces = false) (D : va_G) (K : Nat → ClassId) (aG : Nat → Nat) (aS : Nat → Nat) (sz : Nat) (G : S1) (S : S4) (p2 : Int32) (r : (String × (S1 × S4)) ⊕ (Unit × (S1 × S4))) (h : fX1_readCode G S p2 = some r) : xMet l yX1_readCode cX1_readCode 3 none 8 140 D K [.ref (aG 0), .ref (aS 0), .int p2] sz (w1 aG K G ++ w4 aS K S) (oX1_readCode aG aS K r) := by
  refine xm_of _ (by decide +kernel) (Nat.le_of_ble_eq_true rfl) (fun p e s m args below meth c A C hP hD ls hl => ?_)
  have hl : lv_has ls 3 [(0, .ref (aG 0)), (1, .ref (aS 0)), (2, .int p2)] := hl
  have hS : va_S A s.heap s.heap [] := va_S.rf
  obtain ⟨hx, hb, hr, hml, hown, hK, hts, hA, hG, hlk, hte, hnm⟩ := id C
  replace h : xbnd0 (fJ7_fill_53178 32 G.1 (-1 : Int32)) (fun v_1 s_2 => xbnd (fX4_readNumber S (1 : Int32)) (fun E9 s_4 => .inl (E9, ((s_2, G.2.1, G.2.2), s_4))) (fun v_3 s_4 => (if v_3 = (1 : Int32) then xbnd (fX1_readSimple (s_2, G.2.1, G.2.2) s_4 p2) (fun E9 s_8 => .inl (E9, (s_8.1, s_8.2))) (fun v_7 s_8 => fX1_readCode_32 s_8.1 s_8.2 p2) else xbnd (fX1_readLengths (s_2, G.2.1, G.2.2) s_4 p2) (fun E9 s_6 => .inl (E9, (s_6.1, s_6.2))) (fun v_5 s_6 => fX1_readCode_32 s_6.1 s_6.2 p2)))) = some r := h
  refine lv_aload_n hx hb dX1_readCode_0 rfl (lv_at hl 0 rfl) ?_
  refine va_get (D := D) (ci := 1) (v := .ref (aG 1)) (C := RX1) (T := TX1) (N := 3) hx hb hts xu_X1 hown hK hP 0 rfl rfl 0 (by decide) (hts _ xw_95) (fun _ h9 => h9) rfl dX1_readCode_1 ?_
  refine lv_iconst (v := (-1 : Int32)) hx hb dX1_readCode_4 (by decide) ?_
  obtain ⟨v_1, s_2, hc9, h⟩ := xi_d h
  refine xc_Q (As := [.ref (aG 1), .int (-1 : Int32)]) (ws' := w1 aG K (s_2, G.2.1, G.2.2) ++ w4 aS K S) C (mJ7_fill_53178 l D K (aG 1) 32 _ _ _ _ hc9) xgs_X1_19 xd_J7_fill_53178 ⟨Nat.le_of_ble_eq_true rfl, Nat.le_of_ble_eq_true rfl⟩ ⟨Nat.zero_le _, Nat.zero_le _⟩ hl rfl (Nat.le_of_ble_eq_true rfl) dX1_readCode_5 hP hD hS [1] rfl rfl [(1, [((aG 1), .inl (K 0, 32, .inl s_2))])] rfl rfl rfl (List.forall_mem_cons.mpr ⟨Nat.le_of_ble_eq_true rfl, (fun _ h => absurd h List.not_mem_nil)⟩) (fun H locs hP hD hS => ?_)
  refine W.eq (g2 := F0 m 8 ls []) rfl ?_
  refine lv_aload_n hx hb dX1_readCode_8 rfl (lv_at hl 1 rfl) ?_
  refine lv_iconst (v := (1 : Int32)) hx hb dX1_readCode_9 (by decide) ?_
  rcases xi_c h with ⟨E9, s_4, hc9, rfl⟩ | ⟨v_3, s_4, hc9, h⟩
  · exact xc_Vt (As := [.int (1 : Int32)]) (ws' := w1 aG K (s_2, G.2.1, G.2.2) ++ w4 aS K s_4) C (mX4_readNumber l hlt D K aS _ _ _ _ hc9) xgi_X1_25 xd_X4_readNumber ⟨Nat.le_of_ble_eq_true rfl, Nat.le_of_ble_eq_true rfl⟩ ⟨Nat.le_refl _, Nat.le_refl _⟩ hl rfl (Nat.le_of_ble_eq_true rfl) dX1_readCode_10 hP hD hS 4 4 rfl rfl rfl [4, 5] rfl rfl [(4, w4 aS K s_4)] rfl rfl rfl (List.forall_mem_cons.mpr ⟨Nat.le_of_ble_eq_true rfl, (fun _ h => absurd h List.not_mem_nil)⟩)
  · refine xc_V (As := [.int (1 : Int32)]) (ws' := w1 aG K (s_2, G.2.1, G.2.2) ++ w4 aS K s_4) C (mX4_readNumber l hlt D K aS _ _ _ _ hc9) xgi_X1_25 xd_X4_readNumber ⟨Nat.le_of_ble_eq_true rfl, Nat.le_of_ble_eq_true rfl⟩ ⟨Nat.zero_le _, Nat.zero_le _⟩ hl rfl (Nat.le_of_ble_eq_true rfl) dX1_readCode_10 hP hD hS 4 4 rfl rfl rfl [4, 5] rfl rfl [(4, w4 aS K s_4)] rfl rfl rfl (List.forall_mem_cons.mpr ⟨Nat.le_of_ble_eq_true rfl, (fun _ h => absurd h List.not_mem_nil)⟩) (fun H locs hP hD hS => ?_)
    refine W.eq (g2 := F0 m 13 ls [.int v_3]) rfl ?_
    refine lv_iconst (v := (1 : Int32)) hx hb dX1_readCode_13 (by decide) ?_
    refine lv_icmp_ne (tgt := 26) hx hb dX1_readCode_14 (by decide) (fun c9 => ?_) (fun c9 => ?_)
    · replace h := xi_f c9 h
      refine lv_aload_n hx hb dX1_readCode_26 rfl (lv_at hl 0 rfl) ?_
      refine lv_aload_n hx hb dX1_readCode_27 rfl (lv_at hl 1 rfl) ?_
      refine lv_iload_n hx hb dX1_readCode_28 rfl (lv_at hl 2 rfl) ?_
      rcases xi_c h with ⟨E9, s_6, hc9, rfl⟩ | ⟨v_5, s_6, hc9, h⟩
      · exact xc_Vt (As := [.ref (aS 0), .int p2]) (ws' := w1 aG K s_6.1 ++ w4 aS K s_6.2) C (mX1_readLengths l hlt D K aG aS _ _ _ _ _ hc9) xgi_X1_35 xd_X1_readLengths ⟨Nat.le_of_ble_eq_true rfl, Nat.le_of_ble_eq_true rfl⟩ ⟨Nat.le_refl _, Nat.le_refl _⟩ hl rfl (Nat.le_of_ble_eq_true rfl) dX1_readCode_29 hP hD hS 0 1 rfl rfl rfl [0, 1, 2, 3, 4, 5] rfl rfl [(0, w1 aG K s_6.1), (4, w4 aS K s_6.2)] rfl rfl rfl (List.forall_mem_cons.mpr ⟨Nat.le_of_ble_eq_true rfl, (List.forall_mem_cons.mpr ⟨Nat.le_of_ble_eq_true rfl, (fun _ h => absurd h List.not_mem_nil)⟩)⟩)
      · refine xc_V (As := [.ref (aS 0), .int p2]) (ws' := w1 aG K s_6.1 ++ w4 aS K s_6.2) C (mX1_readLengths l hlt D K aG aS _ _ _ _ _ hc9) xgi_X1_35 xd_X1_readLengths ⟨Nat.le_of_ble_eq_true rfl, Nat.le_of_ble_eq_true rfl⟩ ⟨Nat.zero_le _, Nat.zero_le _⟩ hl rfl (Nat.le_of_ble_eq_true rfl) dX1_readCode_29 hP hD hS 0 1 rfl rfl rfl [0, 1, 2, 3, 4, 5] rfl rfl [(0, w1 aG K s_6.1), (4, w4 aS K s_6.2)] rfl rfl rfl (List.forall_mem_cons.mpr ⟨Nat.le_of_ble_eq_true rfl, (List.forall_mem_cons.mpr ⟨Nat.le_of_ble_eq_true rfl, (fun _ h => absurd h List.not_mem_nil)⟩)⟩) (fun H locs hP hD hS => ?_)
        refine W.eq (g2 := F0 m 32 ls []) rfl ?_
        exact kX1_readCode_32 C hlt _ _ _ _ h _ _ _ hP hD hS (lv_sub hl [0, 2] rfl)
    · replace h := xi_t c9 h
      refine lv_aload_n hx hb dX1_readCode_17 rfl (lv_at hl 0 rfl) ?_
      refine lv_aload_n hx hb dX1_readCode_18 rfl (lv_at hl 1 rfl) ?_
      refine lv_iload_n hx hb dX1_readCode_19 rfl (lv_at hl 2 rfl) ?_
      rcases xi_c h with ⟨E9, s_8, hc9, rfl⟩ | ⟨v_7, s_8, hc9, h⟩
      · exact xc_Vt (As := [.ref (aS 0), .int p2]) (ws' := w1 aG K s_8.1 ++ w4 aS K s_8.2) C (mX1_readSimple l hlt D K aG aS _ _ _ _ _ hc9) xgi_X1_31 xd_X1_readSimple ⟨Nat.le_of_ble_eq_true rfl, Nat.le_of_ble_eq_true rfl⟩ ⟨Nat.le_refl _, Nat.le_refl _⟩ hl rfl (Nat.le_of_ble_eq_true rfl) dX1_readCode_20 hP hD hS 0 1 rfl rfl rfl [0, 1, 2, 3, 4, 5] rfl rfl [(0, w1 aG K s_8.1), (4, w4 aS K s_8.2)] rfl rfl rfl (List.forall_mem_cons.mpr ⟨Nat.le_of_ble_eq_true rfl, (List.forall_mem_cons.mpr ⟨Nat.le_of_ble_eq_true rfl, (fun _ h => absurd h List.not_mem_nil)⟩)⟩)
      · refine xc_V (As := [.ref (aS 0), .int p2]) (ws' := w1 aG K s_8.1 ++ w4 aS K s_8.2) C (mX1_readSimple l hlt D K aG aS _ _ _ _ _ hc9) xgi_X1_31 xd_X1_readSimple ⟨Nat.le_of_ble_eq_true rfl, Nat.le_of_ble_eq_true rfl⟩ ⟨Nat.zero_le _, Nat.zero_le _⟩ hl rfl (Nat.le_of_ble_eq_true rfl) dX1_readCode_20 hP hD hS 0 1 rfl rfl rfl [0, 1, 2, 3, 4, 5] rfl rfl [(0, w1 aG K s_8.1), (4, w4 aS K s_8.2)] rfl rfl rfl (List.forall_mem_cons.mpr ⟨Nat.le_of_ble_eq_true rfl, (List.forall_mem_cons.mpr ⟨Nat.le_of_ble_eq_true rfl, (fun _ h => absurd h List.not_mem_nil)⟩)⟩) (fun H locs hP hD hS => ?_)
        refine W.eq (g2 := F0 m 23 ls []) rfl ?_
        refine lv_goto (tgt := 32) hx hb dX1_readCode_23 (by decide) ?_
        exact kX1_readCode_32 C hlt _ _ _ _ h _ _ _ hP hD hS (lv_sub hl [0, 2] rfl)
end
section
abbrev oX3_clear (aO : Nat → Nat) (K : Nat → ClassId) (q : Unit × (S3)) : xO := .inr (none, w3 aO K q.2)
def fX3_clear (O : S3) : Option (Unit × (S3)) := some ((), (O.1, (va_cpy xs_counts O.2.1 ((0 : Int32)).toNatClampNeg ((0 : Int32)).toNatClampNeg ((9 : Int32)).toNatClampNeg), (0 : Int32)))
set_option maxHeartbeats 4000000 in
set_option maxRecDepth 100000 in
theorem mX3_clear (l : Launch) (D : va_G) (K : Nat → ClassId) (aO : Nat → Nat) (sz : Nat) (O : S3) (r : Unit × (S3)) (h : fX3_clear O = some r) : xMet l yX3_clear cX3_clear 1 none 1 64 D K [.ref (aO 0)] sz (w3 aO K O) (oX3_clear aO K r) := by
  refine xm_of _ (by decide +kernel) (Nat.le_of_ble_eq_true rfl) (fun p e s m args below meth c A C hP hD ls hl => ?_)
  have hl : lv_has ls 1 [(0, .ref (aO 0))] := hl
  have hS : va_S A s.heap s.heap [] := va_S.rf
  obtain ⟨hx, hb, hr, hml, hown, hK, hts, hA, hG, hlk, hte, hnm⟩ := id C
  replace h : some ((), (O.1, (va_cpy xs_counts O.2.1 ((0 : Int32)).toNatClampNeg ((0 : Int32)).toNatClampNeg ((9 : Int32)).toNatClampNeg), (0 : Int32))) = some r := h
  refine lv_aload_n hx hb dX3_clear_0 rfl (lv_at hl 0 rfl) ?_
  refine lv_iconst (v := (0 : Int32)) hx hb dX3_clear_1 (by decide) ?_
  refine va_put (D := D) (ci := 3) (v := .int (0 : Int32)) (ty := .int) (C := RX3) (T := TX3) (N := 3) hx hb hts xu_X3 tyX3 tyX3_ok nmX3 hown hK hP hD hS 0 rfl rfl 2 (by decide) (hts _ xw_170) (fun _ h9 => h9) rfl (by decide +kernel) rfl rfl (Nat.le_of_ble_eq_true rfl) dX3_clear_2 (fun H locs hP hD hS => ?_)
  have hP : va_P D vwCl (w3 aO K (O.1, O.2.1, (0 : Int32))) H := hP
  have hD : va_D A (w3 aO K (O.1, O.2.1, (0 : Int32))) := hD
  obtain ⟨r_COUNTS_AT_FIRST, hZCOUNTS_AT_FIRST, hXCOUNTS_AT_FIRST, hLCOUNTS_AT_FIRST, hNCOUNTS_AT_FIRST⟩ := hG.2.1.1
  refine va_gets hx hb hZCOUNTS_AT_FIRST hS hown (hts _ xw_156) (fun _ h9 => h9) dX3_clear_5 ?_
  refine lv_iconst (v := (0 : Int32)) hx hb dX3_clear_8 (by decide) ?_
  refine lv_aload_n hx hb dX3_clear_9 rfl (lv_at hl 0 rfl) ?_
  refine va_get (D := D) (ci := 3) (v := .ref (aO 2)) (C := RX3) (T := TX3) (N := 3) hx hb hts xu_X3 hown hK hP 0 rfl rfl 1 (by decide) (hts _ xw_167) (fun _ h9 => h9) rfl dX3_clear_10 ?_
  refine lv_iconst (v := (0 : Int32)) hx hb dX3_clear_13 (by decide) ?_
  refine lv_bipush (v := (9 : Int32)) hx hb dX3_clear_14 (by decide) ?_
  refine va_copyx hx hb (hml.trans hl.1.symm) hown (hts _ xw_345) (hts _ xw_347) (hts _ xw_346) (hts _ xw_47) hK hP hD hS hXCOUNTS_AT_FIRST hLCOUNTS_AT_FIRST hNCOUNTS_AT_FIRST 2 0 rfl rfl (by decide) (by decide) (by decide) (by decide) (by decide) (Nat.le_of_ble_eq_true rfl) (Nat.le_of_ble_eq_true rfl) dX3_clear_16 (fun H locs hP hD hS => ?_)
  have hP : va_P D vwCl (w3 aO K (O.1, (va_cpy xs_counts O.2.1 ((0 : Int32)).toNatClampNeg ((0 : Int32)).toNatClampNeg ((9 : Int32)).toNatClampNeg), (0 : Int32))) H := hP
  have hD : va_D A (w3 aO K (O.1, (va_cpy xs_counts O.2.1 ((0 : Int32)).toNatClampNeg ((0 : Int32)).toNatClampNeg ((9 : Int32)).toNatClampNeg), (0 : Int32))) := hD
  obtain rfl := Option.some.inj h
  exact xe_v C hP hD hS dX3_clear_19
end
section
abbrev oX2_stretchIsOver (aL : Nat → Nat) (K : Nat → ClassId) (q : Int32 × (S2)) : xO := .inr ((some (.int q.1)), w2 aL K q.2)
def fX2_stretchIsOver (L : S2) : Option (Int32 × (S2)) := (if L.2.2.2.2.2.2.2.2.1 ≤ (1 : Int32) then some ((0 : Int32), L) else (if L.2.2.2.2.2.2.2.2.2.2.2 = 0 then some ((1 : Int32), L) else some ((0 : Int32), L)))
set_option maxHeartbeats 4000000 in
set_option maxRecDepth 100000 in
theorem mX2_stretchIsOver (l : Launch) (D : va_G) (K : Nat → ClassId) (aL : Nat → Nat) (sz : Nat) (L : S2) (r : Int32 × (S2)) (h : fX2_stretchIsOver L = some r) : xMet l yX2_stretchIsOver cX2_stretchIsOver 1 (some .boolean) 0 0 D K [.ref (aL 0)] sz (w2 aL K L) (oX2_stretchIsOver aL K r) := by
  refine xm_of _ (by decide +kernel) (Nat.le_of_ble_eq_true rfl) (fun p e s m args below meth c A C hP hD ls hl => ?_)
  have hl : lv_has ls 1 [(0, .ref (aL 0))] := hl
  have hS : va_S A s.heap s.heap [] := va_S.rf
  obtain ⟨hx, hb, hr, hml, hown, hK, hts, hA, hG, hlk, hte, hnm⟩ := id C
  replace h : (if L.2.2.2.2.2.2.2.2.1 ≤ (1 : Int32) then some ((0 : Int32), L) else (if L.2.2.2.2.2.2.2.2.2.2.2 = 0 then some ((1 : Int32), L) else some ((0 : Int32), L))) = some r := h
  refine lv_aload_n hx hb dX2_stretchIsOver_0 rfl (lv_at hl 0 rfl) ?_
  refine va_get (D := D) (ci := 2) (v := .int L.2.2.2.2.2.2.2.2.1) (C := RX2) (T := TX2) (N := 9) hx hb hts xu_X2 hown hK hP 0 rfl rfl 5 (by decide) (hts _ xw_112) (fun _ h9 => h9) rfl dX2_stretchIsOver_1 ?_
  refine lv_iconst (v := (1 : Int32)) hx hb dX2_stretchIsOver_4 (by decide) ?_
  refine lv_icmp_le (tgt := 19) hx hb dX2_stretchIsOver_5 (by decide) (fun c9 => ?_) (fun c9 => ?_)
  · replace h := xi_t c9 h
    refine lv_iconst (v := (0 : Int32)) hx hb dX2_stretchIsOver_19 (by decide) ?_
    obtain rfl := Option.some.inj h
    exact xe_z (r := (0 : Int32)) C xz0 hP hD hS dX2_stretchIsOver_20
  · replace h := xi_f c9 h
    refine lv_aload_n hx hb dX2_stretchIsOver_8 rfl (lv_at hl 0 rfl) ?_
    refine va_get (D := D) (ci := 2) (v := .int L.2.2.2.2.2.2.2.2.2.2.2) (C := RX2) (T := TX2) (N := 9) hx hb hts xu_X2 hown hK hP 0 rfl rfl 8 (by decide) (hts _ xw_115) (fun _ h9 => h9) rfl dX2_stretchIsOver_9 ?_
    refine lv_if_ne (tgt := 19) hx hb dX2_stretchIsOver_12 (by decide) (fun c9 => ?_) (fun c9 => ?_)
    · replace h := xi_f c9 h
      refine lv_iconst (v := (0 : Int32)) hx hb dX2_stretchIsOver_19 (by decide) ?_
      obtain rfl := Option.some.inj h
      exact xe_z (r := (0 : Int32)) C xz0 hP hD hS dX2_stretchIsOver_20
    · replace h := xi_t c9 h
      refine lv_iconst (v := (1 : Int32)) hx hb dX2_stretchIsOver_15 (by decide) ?_
      refine lv_goto (tgt := 20) hx hb dX2_stretchIsOver_16 (by decide) ?_
      obtain rfl := Option.some.inj h
      exact xe_z (r := (1 : Int32)) C xz1 hP hD hS dX2_stretchIsOver_20
abbrev oX2_context (K : Nat → ClassId) (q : Int32 × (Unit)) : xO := .inr ((some (.int q.1)), ([] : va_W))
def fX2_context (p0 : Int32) (p1 : Int32) (p2 : Int32) : Option (Int32 × (Unit)) := (if p0 = (0 : Int32) then some ((p1 - p1 / (4 : Int32) * (4 : Int32)), ()) else (if p0 = (1 : Int32) then some ((p1 / (8 : Int32)), ()) else (if p0 = (2 : Int32) then (if p1 = 0 then some ((0 : Int32), ()) else (if (8 : Int32) ≤ p1 then (if (20 : Int32) ≤ p1 then some ((3 : Int32), ()) else some ((2 : Int32), ())) else some ((1 : Int32), ()))) else some ((((2 : Int32) * (p1 / (16 : Int32))) + (p2 / (16 : Int32))), ()))))
set_option maxHeartbeats 4000000 in
set_option maxRecDepth 100000 in
theorem mX2_context (l : Launch) (D : va_G) (K : Nat → ClassId) (sz : Nat) (p0 : Int32) (p1 : Int32) (p2 : Int32) (r : Int32 × (Unit)) (h : fX2_context p0 p1 p2 = some r) : xMet l yX2_context cX2_context 3 (some .int) 0 0 D K [.int p0, .int p1, .int p2] sz (([] : va_W)) (oX2_context K r) := by
  refine xm_of _ (by decide +kernel) (Nat.le_of_ble_eq_true rfl) (fun p e s m args below meth c A C hP hD ls hl => ?_)
  have hl : lv_has ls 3 [(0, .int p0), (1, .int p1), (2, .int p2)] := hl
  have hS : va_S A s.heap s.heap [] := va_S.rf
  obtain ⟨hx, hb, hr, hml, hown, hK, hts, hA, hG, hlk, hte, hnm⟩ := id C
  replace h : (if p0 = (0 : Int32) then some ((p1 - p1 / (4 : Int32) * (4 : Int32)), ()) else (if p0 = (1 : Int32) then some ((p1 / (8 : Int32)), ()) else (if p0 = (2 : Int32) then (if p1 = 0 then some ((0 : Int32), ()) else (if (8 : Int32) ≤ p1 then (if (20 : Int32) ≤ p1 then some ((3 : Int32), ()) else some ((2 : Int32), ())) else some ((1 : Int32), ()))) else some ((((2 : Int32) * (p1 / (16 : Int32))) + (p2 / (16 : Int32))), ())))) = some r := h
  refine lv_iload_n hx hb dX2_context_0 rfl (lv_at hl 0 rfl) ?_
  by_cases c9 : p0 = (0 : Int32)
  · replace h := xi_t c9 h
    refine lv_tableIn (off := 27) (tgt := 28) hx hb dX2_context_1 (by rw [c9]; decide) (by rw [c9]; decide) (by rw [c9]; decide) (by decide) ?_
    refine lv_iload_n hx hb dX2_context_28 rfl (lv_at hl 1 rfl) ?_
    refine lv_iconst (v := (4 : Int32)) hx hb dX2_context_29 (by decide) ?_
    refine lv_irem hx hb dX2_context_30 (by decide) ?_
    obtain rfl := Option.some.inj h
    exact xe_i C hP hD hS dX2_context_31
  replace h := xi_f c9 h
  have c90 := c9
  by_cases c9 : p0 = (1 : Int32)
  · replace h := xi_t c9 h
    refine lv_tableIn (off := 31) (tgt := 32) hx hb dX2_context_1 (by rw [c9]; decide) (by rw [c9]; decide) (by rw [c9]; decide) (by decide) ?_
    refine lv_iload_n hx hb dX2_context_32 rfl (lv_at hl 1 rfl) ?_
    refine lv_bipush (v := (8 : Int32)) hx hb dX2_context_33 (by decide) ?_
    refine lv_idiv hx hb dX2_context_35 (by decide) ?_
    obtain rfl := Option.some.inj h
    exact xe_i C hP hD hS dX2_context_36
  replace h := xi_f c9 h
  have c91 := c9
  by_cases c9 : p0 = (2 : Int32)
  · replace h := xi_t c9 h
    refine lv_tableIn (off := 36) (tgt := 37) hx hb dX2_context_1 (by rw [c9]; decide) (by rw [c9]; decide) (by rw [c9]; decide) (by decide) ?_
    refine lv_iload_n hx hb dX2_context_37 rfl (lv_at hl 1 rfl) ?_
    refine lv_if_ne (tgt := 45) hx hb dX2_context_38 (by decide) (fun c9 => ?_) (fun c9 => ?_)
    · replace h := xi_f c9 h
      refine lv_iload_n hx hb dX2_context_45 rfl (lv_at hl 1 rfl) ?_
      refine lv_bipush (v := (8 : Int32)) hx hb dX2_context_46 (by decide) ?_
      refine lv_icmp_ge (tgt := 55) hx hb dX2_context_48 (by decide) (fun c9 => ?_) (fun c9 => ?_)
      · replace h := xi_t c9 h
        refine lv_iload_n hx hb dX2_context_55 rfl (lv_at hl 1 rfl) ?_
        refine lv_bipush (v := (20 : Int32)) hx hb dX2_context_56 (by decide) ?_
        refine lv_icmp_ge (tgt := 65) hx hb dX2_context_58 (by decide) (fun c9 => ?_) (fun c9 => ?_)
        · replace h := xi_t c9 h
          refine lv_iconst (v := (3 : Int32)) hx hb dX2_context_65 (by decide) ?_
          obtain rfl := Option.some.inj h
          exact xe_i C hP hD hS dX2_context_66
        · replace h := xi_f c9 h
          refine lv_iconst (v := (2 : Int32)) hx hb dX2_context_61 (by decide) ?_
          refine lv_goto (tgt := 66) hx hb dX2_context_62 (by decide) ?_
          obtain rfl := Option.some.inj h
          exact xe_i C hP hD hS dX2_context_66
      · replace h := xi_f c9 h
        refine lv_iconst (v := (1 : Int32)) hx hb dX2_context_51 (by decide) ?_
        refine lv_goto (tgt := 66) hx hb dX2_context_52 (by decide) ?_
        obtain rfl := Option.some.inj h
        exact xe_i C hP hD hS dX2_context_66
    · replace h := xi_t c9 h
      refine lv_iconst (v := (0 : Int32)) hx hb dX2_context_41 (by decide) ?_
      refine lv_goto (tgt := 66) hx hb dX2_context_42 (by decide) ?_
      obtain rfl := Option.some.inj h
      exact xe_i C hP hD hS dX2_context_66
  replace h := xi_f c9 h
  have c92 := c9
  refine lv_tableOut (tgt := 67) hx hb dX2_context_1 (xi_sw3 c90 c91 c92) (by decide) ?_
  refine lv_iconst (v := (2 : Int32)) hx hb dX2_context_67 (by decide) ?_
  refine lv_iload_n hx hb dX2_context_68 rfl (lv_at hl 1 rfl) ?_
  refine lv_bipush (v := (16 : Int32)) hx hb dX2_context_69 (by decide) ?_
  refine lv_idiv hx hb dX2_context_71 (by decide) ?_
  refine lv_imul hx hb dX2_context_72 ?_
  refine lv_iload_n hx hb dX2_context_73 rfl (lv_at hl 2 rfl) ?_
  refine lv_bipush (v := (16 : Int32)) hx hb dX2_context_74 (by decide) ?_
  refine lv_idiv hx hb dX2_context_76 (by decide) ?_
  refine lv_iadd hx hb dX2_context_77 ?_
  obtain rfl := Option.some.inj h
  exact xe_i C hP hD hS dX2_context_78
end
section
abbrev oX2_replacePlaces (aL : Nat → Nat) (K : Nat → ClassId) (q : Unit × (S2)) : xO := .inr (none, w2 aL K q.2)
def fX2_replacePlaces_45 (rec22 : S2 → Int32 → Int32 → Option (Unit × (S2))) : Nat → S2 → Int32 → Int32 → Int32 → Int32 → Option (Unit × (S2))
  | 0 => fun _ _ _ _ _ => none
  | fu + 1 => fun L x1 x2 x4 x5 => (if x5 ≤ 0 then (if (0 : Int32) < 0 ∨ 4 ≤ ((0 : Int32)).toNatClampNeg then none else (if x2 < 0 ∨ 12 ≤ (x2).toNatClampNeg then none else rec22 (L.1, L.2.1, L.2.2.1, L.2.2.2.1, L.2.2.2.2.1, L.2.2.2.2.2.1, (upd L.2.2.2.2.2.2.1 (x2).toNatClampNeg x4), (upd L.2.2.2.2.2.2.2.1 ((0 : Int32)).toNatClampNeg x4), L.2.2.2.2.2.2.2.2.1, L.2.2.2.2.2.2.2.2.2.1, L.2.2.2.2.2.2.2.2.2.2.1, L.2.2.2.2.2.2.2.2.2.2.2) x1 (x2 + (1 : Int32)))) else (if (x5 - (1 : Int32)) < 0 ∨ 4 ≤ ((x5 - (1 : Int32))).toNatClampNeg then none else (if x5 < 0 ∨ 4 ≤ (x5).toNatClampNeg then none else fX2_replacePlaces_45 rec22 fu (L.1, L.2.1, L.2.2.1, L.2.2.2.1, L.2.2.2.2.1, L.2.2.2.2.2.1, L.2.2.2.2.2.2.1, (upd L.2.2.2.2.2.2.2.1 (x5).toNatClampNeg (L.2.2.2.2.2.2.2.1 ((x5 - (1 : Int32))).toNatClampNeg)), L.2.2.2.2.2.2.2.2.1, L.2.2.2.2.2.2.2.2.2.1, L.2.2.2.2.2.2.2.2.2.2.1, L.2.2.2.2.2.2.2.2.2.2.2) x1 x2 x4 (x5 + (-1 : Int32)))))
def fX2_replacePlaces_22 : Nat → S2 → Int32 → Int32 → Option (Unit × (S2))
  | 0 => fun _ _ _ => none
  | fu + 1 => fun L x1 x2 => (if x1 ≤ x2 then some ((), L) else (if x2 < 0 ∨ 12 ≤ (x2).toNatClampNeg then none else (if (L.2.2.2.2.2.2.1 (x2).toNatClampNeg) < 0 ∨ 4 ≤ ((L.2.2.2.2.2.2.1 (x2).toNatClampNeg)).toNatClampNeg then none else fX2_replacePlaces_45 (fX2_replacePlaces_22 fu) xF L x1 x2 (L.2.2.2.2.2.2.2.1 ((L.2.2.2.2.2.2.1 (x2).toNatClampNeg)).toNatClampNeg) (L.2.2.2.2.2.2.1 (x2).toNatClampNeg))))
def fX2_replacePlaces_2 : Nat → S2 → Int32 → Int32 → Option (Unit × (S2))
  | 0 => fun _ _ _ => none
  | fu + 1 => fun L x1 x2 => (if (4 : Int32) ≤ x2 then fX2_replacePlaces_22 xF L x1 (0 : Int32) else (if x2 < 0 ∨ 4 ≤ (x2).toNatClampNeg then none else fX2_replacePlaces_2 fu (L.1, L.2.1, L.2.2.1, L.2.2.2.1, L.2.2.2.2.1, L.2.2.2.2.2.1, L.2.2.2.2.2.2.1, (upd L.2.2.2.2.2.2.2.1 (x2).toNatClampNeg x2), L.2.2.2.2.2.2.2.2.1, L.2.2.2.2.2.2.2.2.2.1, L.2.2.2.2.2.2.2.2.2.2.1, L.2.2.2.2.2.2.2.2.2.2.2) x1 (x2 + (1 : Int32))))
def fX2_replacePlaces (L : S2) (p1 : Int32) : Option (Unit × (S2)) := fX2_replacePlaces_2 xF L p1 (0 : Int32)
set_option maxHeartbeats 4000000 in
set_option maxRecDepth 100000 in
theorem kX2_replacePlaces_45 {p : Program} {l : Launch} {e : Env} {s : State} {m : MethodId} {args : Array Value} {below : List Frame} {meth : Method} {c : Code} {D : va_G} {K : Nat → ClassId} {A : Nat → Prop} {aL : Nat → Nat} (C : xC p s m args meth c cX2_replacePlaces 6 none yX2_replacePlaces D K A) (rec22 : S2 → Int32 → Int32 → Option (Unit × (S2))) (hrec22 : ∀ (L : S2) (x1 : Int32) (x2 : Int32) (r : Unit × (S2)), rec22 L x1 x2 = some r → ∀ (H : Heap) (locs : List Loc) (ls : Array Slot), va_P D vwCl (w2 aL K L) H → va_D A (w2 aL K L) → va_S A s.heap H locs → lv_has ls 6 [(0, .ref (aL 0)), (1, .int x1), (2, .int x2)] → W p l e (xR 0 0 (oX2_replacePlaces aL K r)) s m args below meth c H locs 0 0 (xQ below args s D K A (oX2_replacePlaces aL K r)) (F0 m 22 ls [])) : ∀ fu : Nat, ∀ (L : S2) (x1 : Int32) (x2 : Int32) (x4 : Int32) (x5 : Int32) (r : Unit × (S2)), fX2_replacePlaces_45  rec22 fu L x1 x2 x4 x5 = some r → ∀ (H : Heap) (locs : List Loc) (ls : Array Slot), va_P D vwCl (w2 aL K L) H → va_D A (w2 aL K L) → va_S A s.heap H locs → lv_has ls 6 [(0, .ref (aL 0)), (1, .int x1), (2, .int x2), (4, .int x4), (5, .int x5)] → W p l e (xR 0 0 (oX2_replacePlaces aL K r)) s m args below meth c H locs 0 0 (xQ below args s D K A (oX2_replacePlaces aL K r)) (F0 m 45 ls []) := by
  obtain ⟨hx, hb, hr, hml, hown, hK, hts, hA, hG, hlk, hte, hnm⟩ := id C
  intro fu
  induction fu with
  | zero =>
    intro L x1 x2 x4 x5 r h
    exact nomatch (show (none : Option (Unit × (S2))) = some r from h)
  | succ fu ih =>
    intro L x1 x2 x4 x5 r h H locs ls hP hD hS hl
    replace h : (if x5 ≤ 0 then (if (0 : Int32) < 0 ∨ 4 ≤ ((0 : Int32)).toNatClampNeg then none else (if x2 < 0 ∨ 12 ≤ (x2).toNatClampNeg then none else rec22 (L.1, L.2.1, L.2.2.1, L.2.2.2.1, L.2.2.2.2.1, L.2.2.2.2.2.1, (upd L.2.2.2.2.2.2.1 (x2).toNatClampNeg x4), (upd L.2.2.2.2.2.2.2.1 ((0 : Int32)).toNatClampNeg x4), L.2.2.2.2.2.2.2.2.1, L.2.2.2.2.2.2.2.2.2.1, L.2.2.2.2.2.2.2.2.2.2.1, L.2.2.2.2.2.2.2.2.2.2.2) x1 (x2 + (1 : Int32)))) else (if (x5 - (1 : Int32)) < 0 ∨ 4 ≤ ((x5 - (1 : Int32))).toNatClampNeg then none else (if x5 < 0 ∨ 4 ≤ (x5).toNatClampNeg then none else fX2_replacePlaces_45 rec22 fu (L.1, L.2.1, L.2.2.1, L.2.2.2.1, L.2.2.2.2.1, L.2.2.2.2.2.1, L.2.2.2.2.2.2.1, (upd L.2.2.2.2.2.2.2.1 (x5).toNatClampNeg (L.2.2.2.2.2.2.2.1 ((x5 - (1 : Int32))).toNatClampNeg)), L.2.2.2.2.2.2.2.2.1, L.2.2.2.2.2.2.2.2.2.1, L.2.2.2.2.2.2.2.2.2.2.1, L.2.2.2.2.2.2.2.2.2.2.2) x1 x2 x4 (x5 + (-1 : Int32))))) = some r := h
    refine lv_iload hx hb dX2_replacePlaces_45 (lv_at hl 4 rfl) ?_
    refine lv_if_le (tgt := 72) hx hb dX2_replacePlaces_47 (by decide) (fun c9 => ?_) (fun c9 => ?_)
    · replace h := xi_t c9 h
      refine lv_aload_n hx hb dX2_replacePlaces_72 rfl (lv_at hl 0 rfl) ?_
      refine va_get (D := D) (ci := 2) (v := .ref (aL 24)) (C := RX2) (T := TX2) (N := 9) hx hb hts xu_X2 hown hK hP 0 rfl rfl 4 (by decide) (hts _ xw_111) (fun _ h9 => h9) rfl dX2_replacePlaces_73 ?_
      refine lv_iconst (v := (0 : Int32)) hx hb dX2_replacePlaces_76 (by decide) ?_
      refine lv_iload hx hb dX2_replacePlaces_77 (lv_at hl 3 rfl) ?_
      obtain ⟨hi9, h⟩ := xi_g h
      refine va_iast hx hb hK hP hD hS 24 0 rfl rfl hi9 dX2_replacePlaces_79 (fun H locs hP hD hS => ?_)
      have hP : va_P D vwCl (w2 aL K (L.1, L.2.1, L.2.2.1, L.2.2.2.1, L.2.2.2.2.1, L.2.2.2.2.2.1, L.2.2.2.2.2.2.1, (upd L.2.2.2.2.2.2.2.1 ((0 : Int32)).toNatClampNeg x4), L.2.2.2.2.2.2.2.2.1, L.2.2.2.2.2.2.2.2.2.1, L.2.2.2.2.2.2.2.2.2.2.1, L.2.2.2.2.2.2.2.2.2.2.2)) H := hP
      have hD : va_D A (w2 aL K (L.1, L.2.1, L.2.2.1, L.2.2.2.1, L.2.2.2.2.1, L.2.2.2.2.2.1, L.2.2.2.2.2.2.1, (upd L.2.2.2.2.2.2.2.1 ((0 : Int32)).toNatClampNeg x4), L.2.2.2.2.2.2.2.2.1, L.2.2.2.2.2.2.2.2.2.1, L.2.2.2.2.2.2.2.2.2.2.1, L.2.2.2.2.2.2.2.2.2.2.2)) := hD
      refine lv_aload_n hx hb dX2_replacePlaces_80 rfl (lv_at hl 0 rfl) ?_
      refine va_get (D := D) (ci := 2) (v := .ref (aL 23)) (C := RX2) (T := TX2) (N := 9) hx hb hts xu_X2 hown hK hP 0 rfl rfl 3 (by decide) (hts _ xw_110) (fun _ h9 => h9) rfl dX2_replacePlaces_81 ?_
      refine lv_iload_n hx hb dX2_replacePlaces_84 rfl (lv_at hl 2 rfl) ?_
      refine lv_iload hx hb dX2_replacePlaces_85 (lv_at hl 3 rfl) ?_
      obtain ⟨hi9, h⟩ := xi_g h
      refine va_iast hx hb hK hP hD hS 23 0 rfl rfl hi9 dX2_replacePlaces_87 (fun H locs hP hD hS => ?_)
      have hP : va_P D vwCl (w2 aL K (L.1, L.2.1, L.2.2.1, L.2.2.2.1, L.2.2.2.2.1, L.2.2.2.2.2.1, (upd L.2.2.2.2.2.2.1 (x2).toNatClampNeg x4), (upd L.2.2.2.2.2.2.2.1 ((0 : Int32)).toNatClampNeg x4), L.2.2.2.2.2.2.2.2.1, L.2.2.2.2.2.2.2.2.2.1, L.2.2.2.2.2.2.2.2.2.2.1, L.2.2.2.2.2.2.2.2.2.2.2)) H := hP
      have hD : va_D A (w2 aL K (L.1, L.2.1, L.2.2.1, L.2.2.2.1, L.2.2.2.2.1, L.2.2.2.2.2.1, (upd L.2.2.2.2.2.2.1 (x2).toNatClampNeg x4), (upd L.2.2.2.2.2.2.2.1 ((0 : Int32)).toNatClampNeg x4), L.2.2.2.2.2.2.2.2.1, L.2.2.2.2.2.2.2.2.2.1, L.2.2.2.2.2.2.2.2.2.2.1, L.2.2.2.2.2.2.2.2.2.2.2)) := hD
      refine lv_iinc (v := (x2 + (1 : Int32))) (lv' := [(2, .int (x2 + (1 : Int32))), (0, .ref (aL 0)), (1, .int x1), (4, .int x4), (5, .int x5)]) hx hb dX2_replacePlaces_88 hl (k := 2) rfl (by rfl) (by decide) rfl (fun ls hl => ?_)
      refine lv_goto (tgt := 22) hx hb dX2_replacePlaces_91 (by decide) ?_
      exact hrec22 _ _ _ _ h _ _ _ hP hD hS (lv_sub hl [1, 2, 0] rfl)
    · replace h := xi_f c9 h
      refine lv_aload_n hx hb dX2_replacePlaces_50 rfl (lv_at hl 0 rfl) ?_
      refine va_get (D := D) (ci := 2) (v := .ref (aL 24)) (C := RX2) (T := TX2) (N := 9) hx hb hts xu_X2 hown hK hP 0 rfl rfl 4 (by decide) (hts _ xw_111) (fun _ h9 => h9) rfl dX2_replacePlaces_51 ?_
      refine lv_iload hx hb dX2_replacePlaces_54 (lv_at hl 4 rfl) ?_
      refine lv_aload_n hx hb dX2_replacePlaces_56 rfl (lv_at hl 0 rfl) ?_
      refine va_get (D := D) (ci := 2) (v := .ref (aL 24)) (C := RX2) (T := TX2) (N := 9) hx hb hts xu_X2 hown hK hP 0 rfl rfl 4 (by decide) (hts _ xw_111) (fun _ h9 => h9) rfl dX2_replacePlaces_57 ?_
      refine lv_iload hx hb dX2_replacePlaces_60 (lv_at hl 4 rfl) ?_
      refine lv_iconst (v := (1 : Int32)) hx hb dX2_replacePlaces_62 (by decide) ?_
      refine lv_isub hx hb dX2_replacePlaces_63 ?_
      obtain ⟨hi9, h⟩ := xi_g h
      refine va_iald hx hb hK hP 24 0 rfl rfl hi9 dX2_replacePlaces_64 ?_
      obtain ⟨hi9, h⟩ := xi_g h
      refine va_iast hx hb hK hP hD hS 24 0 rfl rfl hi9 dX2_replacePlaces_65 (fun H locs hP hD hS => ?_)
      have hP : va_P D vwCl (w2 aL K (L.1, L.2.1, L.2.2.1, L.2.2.2.1, L.2.2.2.2.1, L.2.2.2.2.2.1, L.2.2.2.2.2.2.1, (upd L.2.2.2.2.2.2.2.1 (x5).toNatClampNeg (L.2.2.2.2.2.2.2.1 ((x5 - (1 : Int32))).toNatClampNeg)), L.2.2.2.2.2.2.2.2.1, L.2.2.2.2.2.2.2.2.2.1, L.2.2.2.2.2.2.2.2.2.2.1, L.2.2.2.2.2.2.2.2.2.2.2)) H := hP
      have hD : va_D A (w2 aL K (L.1, L.2.1, L.2.2.1, L.2.2.2.1, L.2.2.2.2.1, L.2.2.2.2.2.1, L.2.2.2.2.2.2.1, (upd L.2.2.2.2.2.2.2.1 (x5).toNatClampNeg (L.2.2.2.2.2.2.2.1 ((x5 - (1 : Int32))).toNatClampNeg)), L.2.2.2.2.2.2.2.2.1, L.2.2.2.2.2.2.2.2.2.1, L.2.2.2.2.2.2.2.2.2.2.1, L.2.2.2.2.2.2.2.2.2.2.2)) := hD
      refine lv_iinc (v := (x5 + (-1 : Int32))) (lv' := [(5, .int (x5 + (-1 : Int32))), (0, .ref (aL 0)), (1, .int x1), (2, .int x2), (4, .int x4)]) hx hb dX2_replacePlaces_66 hl (k := 4) rfl (by rfl) (by decide) rfl (fun ls hl => ?_)
      refine lv_goto (tgt := 45) hx hb dX2_replacePlaces_69 (by decide) ?_
      exact ih _ _ _ _ _ _ h _ _ _ hP hD hS (lv_sub hl [1, 2, 3, 4, 0] rfl)
set_option maxHeartbeats 4000000 in
set_option maxRecDepth 100000 in
theorem kX2_replacePlaces_22 {p : Program} {l : Launch} {e : Env} {s : State} {m : MethodId} {args : Array Value} {below : List Frame} {meth : Method} {c : Code} {D : va_G} {K : Nat → ClassId} {A : Nat → Prop} {aL : Nat → Nat} (C : xC p s m args meth c cX2_replacePlaces 6 none yX2_replacePlaces D K A) : ∀ fu : Nat, ∀ (L : S2) (x1 : Int32) (x2 : Int32) (r : Unit × (S2)), fX2_replacePlaces_22 fu L x1 x2 = some r → ∀ (H : Heap) (locs : List Loc) (ls : Array Slot), va_P D vwCl (w2 aL K L) H → va_D A (w2 aL K L) → va_S A s.heap H locs → lv_has ls 6 [(0, .ref (aL 0)), (1, .int x1), (2, .int x2)] → W p l e (xR 0 0 (oX2_replacePlaces aL K r)) s m args below meth c H locs 0 0 (xQ below args s D K A (oX2_replacePlaces aL K r)) (F0 m 22 ls []) := by
  obtain ⟨hx, hb, hr, hml, hown, hK, hts, hA, hG, hlk, hte, hnm⟩ := id C
  intro fu
  induction fu with
  | zero =>
    intro L x1 x2 r h
    exact nomatch (show (none : Option (Unit × (S2))) = some r from h)
  | succ fu ih =>
    intro L x1 x2 r h H locs ls hP hD hS hl
    replace h : (if x1 ≤ x2 then some ((), L) else (if x2 < 0 ∨ 12 ≤ (x2).toNatClampNeg then none else (if (L.2.2.2.2.2.2.1 (x2).toNatClampNeg) < 0 ∨ 4 ≤ ((L.2.2.2.2.2.2.1 (x2).toNatClampNeg)).toNatClampNeg then none else fX2_replacePlaces_45 (fX2_replacePlaces_22 fu) xF L x1 x2 (L.2.2.2.2.2.2.2.1 ((L.2.2.2.2.2.2.1 (x2).toNatClampNeg)).toNatClampNeg) (L.2.2.2.2.2.2.1 (x2).toNatClampNeg)))) = some r := h
    refine lv_iload_n hx hb dX2_replacePlaces_22 rfl (lv_at hl 2 rfl) ?_
    refine lv_iload_n hx hb dX2_replacePlaces_23 rfl (lv_at hl 1 rfl) ?_
    refine lv_icmp_ge (tgt := 94) hx hb dX2_replacePlaces_24 (by decide) (fun c9 => ?_) (fun c9 => ?_)
    · replace h := xi_t c9 h
      obtain rfl := Option.some.inj h
      exact xe_v C hP hD hS dX2_replacePlaces_94
    · replace h := xi_f c9 h
      refine lv_aload_n hx hb dX2_replacePlaces_27 rfl (lv_at hl 0 rfl) ?_
      refine va_get (D := D) (ci := 2) (v := .ref (aL 23)) (C := RX2) (T := TX2) (N := 9) hx hb hts xu_X2 hown hK hP 0 rfl rfl 3 (by decide) (hts _ xw_110) (fun _ h9 => h9) rfl dX2_replacePlaces_28 ?_
      refine lv_iload_n hx hb dX2_replacePlaces_31 rfl (lv_at hl 2 rfl) ?_
      obtain ⟨hi9, h⟩ := xi_g h
      refine va_iald hx hb hK hP 23 0 rfl rfl hi9 dX2_replacePlaces_32 ?_
      refine lv_istore_n (lv' := [(3, .int (L.2.2.2.2.2.2.1 (x2).toNatClampNeg)), (0, .ref (aL 0)), (1, .int x1), (2, .int x2)]) hx hb dX2_replacePlaces_33 rfl hl (by decide) rfl (fun ls hl => ?_)
      refine lv_aload_n hx hb dX2_replacePlaces_34 rfl (lv_at hl 1 rfl) ?_
      refine va_get (D := D) (ci := 2) (v := .ref (aL 24)) (C := RX2) (T := TX2) (N := 9) hx hb hts xu_X2 hown hK hP 0 rfl rfl 4 (by decide) (hts _ xw_111) (fun _ h9 => h9) rfl dX2_replacePlaces_35 ?_
      refine lv_iload_n hx hb dX2_replacePlaces_38 rfl (lv_at hl 0 rfl) ?_
      obtain ⟨hi9, h⟩ := xi_g h
      refine va_iald hx hb hK hP 24 0 rfl rfl hi9 dX2_replacePlaces_39 ?_
      refine lv_istore (lv' := [(4, .int (L.2.2.2.2.2.2.2.1 ((L.2.2.2.2.2.2.1 (x2).toNatClampNeg)).toNatClampNeg)), (3, .int (L.2.2.2.2.2.2.1 (x2).toNatClampNeg)), (0, .ref (aL 0)), (1, .int x1), (2, .int x2)]) hx hb dX2_replacePlaces_40 hl (by decide) rfl (fun ls hl => ?_)
      refine lv_iload_n hx hb dX2_replacePlaces_42 rfl (lv_at hl 1 rfl) ?_
      refine lv_istore (lv' := [(5, .int (L.2.2.2.2.2.2.1 (x2).toNatClampNeg)), (4, .int (L.2.2.2.2.2.2.2.1 ((L.2.2.2.2.2.2.1 (x2).toNatClampNeg)).toNatClampNeg)), (3, .int (L.2.2.2.2.2.2.1 (x2).toNatClampNeg)), (0, .ref (aL 0)), (1, .int x1), (2, .int x2)]) hx hb dX2_replacePlaces_43 hl (by decide) rfl (fun ls hl => ?_)
      exact kX2_replacePlaces_45 C _ ih _ _ _ _ _ _ _ h _ _ _ hP hD hS (lv_sub hl [3, 4, 5, 1, 0] rfl)
set_option maxHeartbeats 4000000 in
set_option maxRecDepth 100000 in
theorem kX2_replacePlaces_2 {p : Program} {l : Launch} {e : Env} {s : State} {m : MethodId} {args : Array Value} {below : List Frame} {meth : Method} {c : Code} {D : va_G} {K : Nat → ClassId} {A : Nat → Prop} {aL : Nat → Nat} (C : xC p s m args meth c cX2_replacePlaces 6 none yX2_replacePlaces D K A) : ∀ fu : Nat, ∀ (L : S2) (x1 : Int32) (x2 : Int32) (r : Unit × (S2)), fX2_replacePlaces_2 fu L x1 x2 = some r → ∀ (H : Heap) (locs : List Loc) (ls : Array Slot), va_P D vwCl (w2 aL K L) H → va_D A (w2 aL K L) → va_S A s.heap H locs → lv_has ls 6 [(0, .ref (aL 0)), (1, .int x1), (2, .int x2)] → W p l e (xR 0 0 (oX2_replacePlaces aL K r)) s m args below meth c H locs 0 0 (xQ below args s D K A (oX2_replacePlaces aL K r)) (F0 m 2 ls []) := by
  obtain ⟨hx, hb, hr, hml, hown, hK, hts, hA, hG, hlk, hte, hnm⟩ := id C
  intro fu
  induction fu with
  | zero =>
    intro L x1 x2 r h
    exact nomatch (show (none : Option (Unit × (S2))) = some r from h)
  | succ fu ih =>
    intro L x1 x2 r h H locs ls hP hD hS hl
    replace h : (if (4 : Int32) ≤ x2 then fX2_replacePlaces_22 xF L x1 (0 : Int32) else (if x2 < 0 ∨ 4 ≤ (x2).toNatClampNeg then none else fX2_replacePlaces_2 fu (L.1, L.2.1, L.2.2.1, L.2.2.2.1, L.2.2.2.2.1, L.2.2.2.2.2.1, L.2.2.2.2.2.2.1, (upd L.2.2.2.2.2.2.2.1 (x2).toNatClampNeg x2), L.2.2.2.2.2.2.2.2.1, L.2.2.2.2.2.2.2.2.2.1, L.2.2.2.2.2.2.2.2.2.2.1, L.2.2.2.2.2.2.2.2.2.2.2) x1 (x2 + (1 : Int32)))) = some r := h
    refine lv_iload_n hx hb dX2_replacePlaces_2 rfl (lv_at hl 2 rfl) ?_
    refine lv_iconst (v := (4 : Int32)) hx hb dX2_replacePlaces_3 (by decide) ?_
    refine lv_icmp_ge (tgt := 20) hx hb dX2_replacePlaces_4 (by decide) (fun c9 => ?_) (fun c9 => ?_)
    · replace h := xi_t c9 h
      refine lv_iconst (v := (0 : Int32)) hx hb dX2_replacePlaces_20 (by decide) ?_
      refine lv_istore_n (lv' := [(2, .int (0 : Int32)), (0, .ref (aL 0)), (1, .int x1)]) hx hb dX2_replacePlaces_21 rfl hl (by decide) rfl (fun ls hl => ?_)
      exact kX2_replacePlaces_22 C _ _ _ _ _ h _ _ _ hP hD hS (lv_sub hl [1, 2, 0] rfl)
    · replace h := xi_f c9 h
      refine lv_aload_n hx hb dX2_replacePlaces_7 rfl (lv_at hl 0 rfl) ?_
      refine va_get (D := D) (ci := 2) (v := .ref (aL 24)) (C := RX2) (T := TX2) (N := 9) hx hb hts xu_X2 hown hK hP 0 rfl rfl 4 (by decide) (hts _ xw_111) (fun _ h9 => h9) rfl dX2_replacePlaces_8 ?_
      refine lv_iload_n hx hb dX2_replacePlaces_11 rfl (lv_at hl 2 rfl) ?_
      refine lv_iload_n hx hb dX2_replacePlaces_12 rfl (lv_at hl 2 rfl) ?_
      obtain ⟨hi9, h⟩ := xi_g h
      refine va_iast hx hb hK hP hD hS 24 0 rfl rfl hi9 dX2_replacePlaces_13 (fun H locs hP hD hS => ?_)
      have hP : va_P D vwCl (w2 aL K (L.1, L.2.1, L.2.2.1, L.2.2.2.1, L.2.2.2.2.1, L.2.2.2.2.2.1, L.2.2.2.2.2.2.1, (upd L.2.2.2.2.2.2.2.1 (x2).toNatClampNeg x2), L.2.2.2.2.2.2.2.2.1, L.2.2.2.2.2.2.2.2.2.1, L.2.2.2.2.2.2.2.2.2.2.1, L.2.2.2.2.2.2.2.2.2.2.2)) H := hP
      have hD : va_D A (w2 aL K (L.1, L.2.1, L.2.2.1, L.2.2.2.1, L.2.2.2.2.1, L.2.2.2.2.2.1, L.2.2.2.2.2.2.1, (upd L.2.2.2.2.2.2.2.1 (x2).toNatClampNeg x2), L.2.2.2.2.2.2.2.2.1, L.2.2.2.2.2.2.2.2.2.1, L.2.2.2.2.2.2.2.2.2.2.1, L.2.2.2.2.2.2.2.2.2.2.2)) := hD
      refine lv_iinc (v := (x2 + (1 : Int32))) (lv' := [(2, .int (x2 + (1 : Int32))), (0, .ref (aL 0)), (1, .int x1)]) hx hb dX2_replacePlaces_14 hl (k := 2) rfl (by rfl) (by decide) rfl (fun ls hl => ?_)
      refine lv_goto (tgt := 2) hx hb dX2_replacePlaces_17 (by decide) ?_
      exact ih _ _ _ _ h _ _ _ hP hD hS (lv_sub hl [1, 2, 0] rfl)
set_option maxHeartbeats 4000000 in
set_option maxRecDepth 100000 in
theorem mX2_replacePlaces (l : Launch) (D : va_G) (K : Nat → ClassId) (aL : Nat → Nat) (sz : Nat) (L : S2) (p1 : Int32) (r : Unit × (S2)) (h : fX2_replacePlaces L p1 = some r) : xMet l yX2_replacePlaces cX2_replacePlaces 6 none 0 0 D K [.ref (aL 0), .int p1] sz (w2 aL K L) (oX2_replacePlaces aL K r) := by
  refine xm_of _ (by decide +kernel) (Nat.le_of_ble_eq_true rfl) (fun p e s m args below meth c A C hP hD ls hl => ?_)
  have hl : lv_has ls 6 [(0, .ref (aL 0)), (1, .int p1)] := hl
  have hS : va_S A s.heap s.heap [] := va_S.rf
  obtain ⟨hx, hb, hr, hml, hown, hK, hts, hA, hG, hlk, hte, hnm⟩ := id C
  replace h : fX2_replacePlaces_2 xF L p1 (0 : Int32) = some r := h
  refine lv_iconst (v := (0 : Int32)) hx hb dX2_replacePlaces_0 (by decide) ?_
  refine lv_istore_n (lv' := [(2, .int (0 : Int32)), (0, .ref (aL 0)), (1, .int p1)]) hx hb dX2_replacePlaces_1 rfl hl (by decide) rfl (fun ls hl => ?_)
  exact kX2_replacePlaces_2 C _ _ _ _ _ h _ _ _ hP hD hS (lv_sub hl [1, 2, 0] rfl)
end
section
abbrev oX2_readStretch (aL : Nat → Nat) (aS : Nat → Nat) (K : Nat → ClassId) (r : (String × (S2 × S4)) ⊕ (Unit × (S2 × S4))) : xO := match r with
  | .inl q => .inl (q.1, w2 aL K q.2.1 ++ w4 aS K q.2.2)
  | .inr q => .inr (none, w2 aL K q.2.1 ++ w4 aS K q.2.2)
def fX2_readStretch_65 (L : S2) (S : S4) (x3 : Int32) : Option ((String × (S2 × S4)) ⊕ (Unit × (S2 × S4))) := xbnd (fX4_readNumber S (5 : Int32)) (fun E9 s_4 => .inl (E9, ((L.1, L.2.1, L.2.2.1, L.2.2.2.1, L.2.2.2.2.1, L.2.2.2.2.2.1, L.2.2.2.2.2.2.1, L.2.2.2.2.2.2.2.1, L.2.2.2.2.2.2.2.2.1, L.2.2.2.2.2.2.2.2.2.1, x3, L.2.2.2.2.2.2.2.2.2.2.2), s_4))) (fun v_3 s_4 => some (.inr ((), ((L.1, L.2.1, L.2.2.1, L.2.2.2.1, L.2.2.2.2.1, L.2.2.2.2.2.1, L.2.2.2.2.2.2.1, L.2.2.2.2.2.2.2.1, L.2.2.2.2.2.2.2.2.1, L.2.2.2.2.2.2.2.2.2.1, x3, (v_3 + (1 : Int32))), s_4))))
def fX2_readStretch_52 (L : S2) (S : S4) (x3 : Int32) (t1 : Int32) : Option ((String × (S2 × S4)) ⊕ (Unit × (S2 × S4))) := fX2_readStretch_65 (L.1, L.2.1, L.2.2.1, L.2.2.2.1, L.2.2.2.2.1, L.2.2.2.2.2.1, L.2.2.2.2.2.2.1, L.2.2.2.2.2.2.2.1, L.2.2.2.2.2.2.2.2.1, t1, L.2.2.2.2.2.2.2.2.2.2.1, L.2.2.2.2.2.2.2.2.2.2.2) S x3
def fX2_readStretch (L : S2) (S : S4) : Option ((String × (S2 × S4)) ⊕ (Unit × (S2 × S4))) := xbnd (fX1_readSymbol L.1 S) (fun E9 s_2 => .inl (E9, ((s_2.1, L.2.1, L.2.2.1, L.2.2.2.1, L.2.2.2.2.1, L.2.2.2.2.2.1, L.2.2.2.2.2.2.1, L.2.2.2.2.2.2.2.1, L.2.2.2.2.2.2.2.2.1, L.2.2.2.2.2.2.2.2.2.1, L.2.2.2.2.2.2.2.2.2.2.1, L.2.2.2.2.2.2.2.2.2.2.2), s_2.2))) (fun v_1 s_2 => (if v_1 = 0 then fX2_readStretch_65 (s_2.1, L.2.1, L.2.2.1, L.2.2.2.1, L.2.2.2.2.1, L.2.2.2.2.2.1, L.2.2.2.2.2.2.1, L.2.2.2.2.2.2.2.1, L.2.2.2.2.2.2.2.2.1, L.2.2.2.2.2.2.2.2.2.2.1, L.2.2.2.2.2.2.2.2.2.2.1, L.2.2.2.2.2.2.2.2.2.2.2) s_2.2 L.2.2.2.2.2.2.2.2.2.1 else (if v_1 = (1 : Int32) then (if L.2.2.2.2.2.2.2.2.1 ≤ (L.2.2.2.2.2.2.2.2.2.1 + (1 : Int32)) then fX2_readStretch_52 (s_2.1, L.2.1, L.2.2.1, L.2.2.2.1, L.2.2.2.2.1, L.2.2.2.2.2.1, L.2.2.2.2.2.2.1, L.2.2.2.2.2.2.2.1, L.2.2.2.2.2.2.2.2.1, L.2.2.2.2.2.2.2.2.2.1, L.2.2.2.2.2.2.2.2.2.2.1, L.2.2.2.2.2.2.2.2.2.2.2) s_2.2 L.2.2.2.2.2.2.2.2.2.1 (0 : Int32) else fX2_readStretch_52 (s_2.1, L.2.1, L.2.2.1, L.2.2.2.1, L.2.2.2.2.1, L.2.2.2.2.2.1, L.2.2.2.2.2.2.1, L.2.2.2.2.2.2.2.1, L.2.2.2.2.2.2.2.2.1, L.2.2.2.2.2.2.2.2.2.1, L.2.2.2.2.2.2.2.2.2.2.1, L.2.2.2.2.2.2.2.2.2.2.2) s_2.2 L.2.2.2.2.2.2.2.2.2.1 (L.2.2.2.2.2.2.2.2.2.1 + (1 : Int32))) else fX2_readStretch_65 (s_2.1, L.2.1, L.2.2.1, L.2.2.2.1, L.2.2.2.2.1, L.2.2.2.2.2.1, L.2.2.2.2.2.2.1, L.2.2.2.2.2.2.2.1, L.2.2.2.2.2.2.2.2.1, (v_1 - (2 : Int32)), L.2.2.2.2.2.2.2.2.2.2.1, L.2.2.2.2.2.2.2.2.2.2.2) s_2.2 L.2.2.2.2.2.2.2.2.2.1)))
set_option maxHeartbeats 4000000 in
set_option maxRecDepth 100000 in
theorem kX2_readStretch_65 {p : Program} {l : Launch} {e : Env} {s : State} {m : MethodId} {args : Array Value} {below : List Frame} {meth : Method} {c : Code} {D : va_G} {K : Nat → ClassId} {A : Nat → Prop} {aL : Nat → Nat} {aS : Nat → Nat} (C : xC p s m args meth c cX2_readStretch 4 none yX2_readStretch D K A) (hlt : l.stackTraces = false) : ∀ (L : S2) (S : S4) (x3 : Int32) (r : (String × (S2 × S4)) ⊕ (Unit × (S2 × S4))), fX2_readStretch_65  L S x3 = some r → ∀ (H : Heap) (locs : List Loc) (ls : Array Slot), va_P D vwCl (w2 aL K L ++ w4 aS K S) H → va_D A (w2 aL K L ++ w4 aS K S) → va_S A s.heap H locs → lv_has ls 4 [(0, .ref (aL 0)), (1, .ref (aS 0)), (3, .int x3)] → W p l e (xR 8 138 (oX2_readStretch aL aS K r)) s m args below meth c H locs 0 0 (xQ below args s D K A (oX2_readStretch aL aS K r)) (F0 m 65 ls []) := by
  obtain ⟨hx, hb, hr, hml, hown, hK, hts, hA, hG, hlk, hte, hnm⟩ := id C
  intro L S x3 r h H locs ls hP hD hS hl
  replace h : xbnd (fX4_readNumber S (5 : Int32)) (fun E9 s_4 => .inl (E9, ((L.1, L.2.1, L.2.2.1, L.2.2.2.1, L.2.2.2.2.1, L.2.2.2.2.2.1, L.2.2.2.2.2.2.1, L.2.2.2.2.2.2.2.1, L.2.2.2.2.2.2.2.2.1, L.2.2.2.2.2.2.2.2.2.1, x3, L.2.2.2.2.2.2.2.2.2.2.2), s_4))) (fun v_3 s_4 => some (.inr ((), ((L.1, L.2.1, L.2.2.1, L.2.2.2.1, L.2.2.2.2.1, L.2.2.2.2.2.1, L.2.2.2.2.2.2.1, L.2.2.2.2.2.2.2.1, L.2.2.2.2.2.2.2.2.1, L.2.2.2.2.2.2.2.2.2.1, x3, (v_3 + (1 : Int32))), s_4)))) = some r := h
  refine lv_aload_n hx hb dX2_readStretch_65 rfl (lv_at hl 0 rfl) ?_
  refine lv_iload_n hx hb dX2_readStretch_66 rfl (lv_at hl 2 rfl) ?_
  refine va_put (D := D) (ci := 2) (v := .int x3) (ty := .int) (C := RX2) (T := TX2) (N := 9) hx hb hts xu_X2 tyX2 tyX2_ok nmX2 hown hK hP hD hS 0 rfl rfl 7 (by decide) (hts _ xw_114) (fun _ h9 => h9) rfl (by decide +kernel) rfl rfl (Nat.le_of_ble_eq_true rfl) dX2_readStretch_67 (fun H locs hP hD hS => ?_)
  have hP : va_P D vwCl (w2 aL K (L.1, L.2.1, L.2.2.1, L.2.2.2.1, L.2.2.2.2.1, L.2.2.2.2.2.1, L.2.2.2.2.2.2.1, L.2.2.2.2.2.2.2.1, L.2.2.2.2.2.2.2.2.1, L.2.2.2.2.2.2.2.2.2.1, x3, L.2.2.2.2.2.2.2.2.2.2.2) ++ w4 aS K S) H := hP
  have hD : va_D A (w2 aL K (L.1, L.2.1, L.2.2.1, L.2.2.2.1, L.2.2.2.2.1, L.2.2.2.2.2.1, L.2.2.2.2.2.2.1, L.2.2.2.2.2.2.2.1, L.2.2.2.2.2.2.2.2.1, L.2.2.2.2.2.2.2.2.2.1, x3, L.2.2.2.2.2.2.2.2.2.2.2) ++ w4 aS K S) := hD
  refine lv_aload_n hx hb dX2_readStretch_70 rfl (lv_at hl 0 rfl) ?_
  refine lv_aload_n hx hb dX2_readStretch_71 rfl (lv_at hl 1 rfl) ?_
  refine lv_iconst (v := (5 : Int32)) hx hb dX2_readStretch_72 (by decide) ?_
  rcases xi_c h with ⟨E9, s_4, hc9, rfl⟩ | ⟨v_3, s_4, hc9, h⟩
  · exact xc_Vt (As := [.int (5 : Int32)]) (ws' := w2 aL K (L.1, L.2.1, L.2.2.1, L.2.2.2.1, L.2.2.2.2.1, L.2.2.2.2.2.1, L.2.2.2.2.2.2.1, L.2.2.2.2.2.2.2.1, L.2.2.2.2.2.2.2.2.1, L.2.2.2.2.2.2.2.2.2.1, x3, L.2.2.2.2.2.2.2.2.2.2.2) ++ w4 aS K s_4) C (mX4_readNumber l hlt D K aS _ _ _ _ hc9) xgi_X2_30 xd_X4_readNumber ⟨Nat.le_of_ble_eq_true rfl, Nat.le_of_ble_eq_true rfl⟩ ⟨Nat.le_refl _, Nat.le_refl _⟩ hl rfl (Nat.le_of_ble_eq_true rfl) dX2_readStretch_73 hP hD hS 25 4 rfl rfl rfl [25, 26] rfl rfl [(25, w4 aS K s_4)] rfl rfl rfl (List.forall_mem_cons.mpr ⟨Nat.le_of_ble_eq_true rfl, (fun _ h => absurd h List.not_mem_nil)⟩)
  · refine xc_V (As := [.int (5 : Int32)]) (ws' := w2 aL K (L.1, L.2.1, L.2.2.1, L.2.2.2.1, L.2.2.2.2.1, L.2.2.2.2.2.1, L.2.2.2.2.2.2.1, L.2.2.2.2.2.2.2.1, L.2.2.2.2.2.2.2.2.1, L.2.2.2.2.2.2.2.2.2.1, x3, L.2.2.2.2.2.2.2.2.2.2.2) ++ w4 aS K s_4) C (mX4_readNumber l hlt D K aS _ _ _ _ hc9) xgi_X2_30 xd_X4_readNumber ⟨Nat.le_of_ble_eq_true rfl, Nat.le_of_ble_eq_true rfl⟩ ⟨Nat.zero_le _, Nat.zero_le _⟩ hl rfl (Nat.le_of_ble_eq_true rfl) dX2_readStretch_73 hP hD hS 25 4 rfl rfl rfl [25, 26] rfl rfl [(25, w4 aS K s_4)] rfl rfl rfl (List.forall_mem_cons.mpr ⟨Nat.le_of_ble_eq_true rfl, (fun _ h => absurd h List.not_mem_nil)⟩) (fun H locs hP hD hS => ?_)
    refine W.eq (g2 := F0 m 76 ls [.int v_3, .ref (aL 0)]) rfl ?_
    refine lv_iconst (v := (1 : Int32)) hx hb dX2_readStretch_76 (by decide) ?_
    refine lv_iadd hx hb dX2_readStretch_77 ?_
    refine va_put (D := D) (ci := 2) (v := .int (v_3 + (1 : Int32))) (ty := .int) (C := RX2) (T := TX2) (N := 9) hx hb hts xu_X2 tyX2 tyX2_ok nmX2 hown hK hP hD hS 0 rfl rfl 8 (by decide) (hts _ xw_115) (fun _ h9 => h9) rfl (by decide +kernel) rfl rfl (Nat.le_of_ble_eq_true rfl) dX2_readStretch_78 (fun H locs hP hD hS => ?_)
    have hP : va_P D vwCl (w2 aL K (L.1, L.2.1, L.2.2.1, L.2.2.2.1, L.2.2.2.2.1, L.2.2.2.2.2.1, L.2.2.2.2.2.2.1, L.2.2.2.2.2.2.2.1, L.2.2.2.2.2.2.2.2.1, L.2.2.2.2.2.2.2.2.2.1, x3, (v_3 + (1 : Int32))) ++ w4 aS K s_4) H := hP
    have hD : va_D A (w2 aL K (L.1, L.2.1, L.2.2.1, L.2.2.2.1, L.2.2.2.2.1, L.2.2.2.2.2.1, L.2.2.2.2.2.2.1, L.2.2.2.2.2.2.2.1, L.2.2.2.2.2.2.2.2.1, L.2.2.2.2.2.2.2.2.2.1, x3, (v_3 + (1 : Int32))) ++ w4 aS K s_4) := hD
    obtain rfl := Option.some.inj h
    exact xe_v C hP hD hS dX2_readStretch_81
set_option maxHeartbeats 4000000 in
set_option maxRecDepth 100000 in
theorem kX2_readStretch_52 {p : Program} {l : Launch} {e : Env} {s : State} {m : MethodId} {args : Array Value} {below : List Frame} {meth : Method} {c : Code} {D : va_G} {K : Nat → ClassId} {A : Nat → Prop} {aL : Nat → Nat} {aS : Nat → Nat} (C : xC p s m args meth c cX2_readStretch 4 none yX2_readStretch D K A) (hlt : l.stackTraces = false) : ∀ (L : S2) (S : S4) (x3 : Int32) (t1 : Int32) (r : (String × (S2 × S4)) ⊕ (Unit × (S2 × S4))), fX2_readStretch_52  L S x3 t1 = some r → ∀ (H : Heap) (locs : List Loc) (ls : Array Slot), va_P D vwCl (w2 aL K L ++ w4 aS K S) H → va_D A (w2 aL K L ++ w4 aS K S) → va_S A s.heap H locs → lv_has ls 4 [(0, .ref (aL 0)), (1, .ref (aS 0)), (3, .int x3)] → W p l e (xR 8 138 (oX2_readStretch aL aS K r)) s m args below meth c H locs 0 0 (xQ below args s D K A (oX2_readStretch aL aS K r)) (F0 m 52 ls [.int t1, .ref (aL 0)]) := by
  obtain ⟨hx, hb, hr, hml, hown, hK, hts, hA, hG, hlk, hte, hnm⟩ := id C
  intro L S x3 t1 r h H locs ls hP hD hS hl
  replace h : fX2_readStretch_65 (L.1, L.2.1, L.2.2.1, L.2.2.2.1, L.2.2.2.2.1, L.2.2.2.2.2.1, L.2.2.2.2.2.2.1, L.2.2.2.2.2.2.2.1, L.2.2.2.2.2.2.2.2.1, t1, L.2.2.2.2.2.2.2.2.2.2.1, L.2.2.2.2.2.2.2.2.2.2.2) S x3 = some r := h
  refine va_put (D := D) (ci := 2) (v := .int t1) (ty := .int) (C := RX2) (T := TX2) (N := 9) hx hb hts xu_X2 tyX2 tyX2_ok nmX2 hown hK hP hD hS 0 rfl rfl 6 (by decide) (hts _ xw_113) (fun _ h9 => h9) rfl (by decide +kernel) rfl rfl (Nat.le_of_ble_eq_true rfl) dX2_readStretch_52 (fun H locs hP hD hS => ?_)
  have hP : va_P D vwCl (w2 aL K (L.1, L.2.1, L.2.2.1, L.2.2.2.1, L.2.2.2.2.1, L.2.2.2.2.2.1, L.2.2.2.2.2.2.1, L.2.2.2.2.2.2.2.1, L.2.2.2.2.2.2.2.2.1, t1, L.2.2.2.2.2.2.2.2.2.2.1, L.2.2.2.2.2.2.2.2.2.2.2) ++ w4 aS K S) H := hP
  have hD : va_D A (w2 aL K (L.1, L.2.1, L.2.2.1, L.2.2.2.1, L.2.2.2.2.1, L.2.2.2.2.2.1, L.2.2.2.2.2.2.1, L.2.2.2.2.2.2.2.1, L.2.2.2.2.2.2.2.2.1, t1, L.2.2.2.2.2.2.2.2.2.2.1, L.2.2.2.2.2.2.2.2.2.2.2) ++ w4 aS K S) := hD
  refine lv_goto (tgt := 65) hx hb dX2_readStretch_55 (by decide) ?_
  exact kX2_readStretch_65 C hlt _ _ _ _ h _ _ _ hP hD hS (lv_sub hl [0, 1, 2] rfl)
set_option maxHeartbeats 4000000 in
set_option maxRecDepth 100000 in
theorem mX2_readStretch (l : Launch) (hlt : l.stackTraces = false) (D : va_G) (K : Nat → ClassId) (aL : Nat → Nat) (aS : Nat → Nat) (sz : Nat) (L : S2) (S : S4) (r : (String × (S2 × S4)) ⊕ (Unit × (S2 × S4))) (h : fX2_readStretch L S = some r) : xMet l yX2_readStretch cX2_readStretch 4 none 8 138 D K [.ref (aL 0), .ref (aS 0)] sz (w2 aL K L ++ w4 aS K S) (oX2_readStretch aL aS K r) := by
  refine xm_of _ (by decide +kernel) (Nat.le_of_ble_eq_true rfl) (fun p e s m args below meth c A C hP hD ls hl => ?_)
  have hl : lv_has ls 4 [(0, .ref (aL 0)), (1, .ref (aS 0))] := hl
  have hS : va_S A s.heap s.heap [] := va_S.rf
  obtain ⟨hx, hb, hr, hml, hown, hK, hts, hA, hG, hlk, hte, hnm⟩ := id C
  replace h : xbnd (fX1_readSymbol L.1 S) (fun E9 s_2 => .inl (E9, ((s_2.1, L.2.1, L.2.2.1, L.2.2.2.1, L.2.2.2.2.1, L.2.2.2.2.2.1, L.2.2.2.2.2.2.1, L.2.2.2.2.2.2.2.1, L.2.2.2.2.2.2.2.2.1, L.2.2.2.2.2.2.2.2.2.1, L.2.2.2.2.2.2.2.2.2.2.1, L.2.2.2.2.2.2.2.2.2.2.2), s_2.2))) (fun v_1 s_2 => (if v_1 = 0 then fX2_readStretch_65 (s_2.1, L.2.1, L.2.2.1, L.2.2.2.1, L.2.2.2.2.1, L.2.2.2.2.2.1, L.2.2.2.2.2.2.1, L.2.2.2.2.2.2.2.1, L.2.2.2.2.2.2.2.2.1, L.2.2.2.2.2.2.2.2.2.2.1, L.2.2.2.2.2.2.2.2.2.2.1, L.2.2.2.2.2.2.2.2.2.2.2) s_2.2 L.2.2.2.2.2.2.2.2.2.1 else (if v_1 = (1 : Int32) then (if L.2.2.2.2.2.2.2.2.1 ≤ (L.2.2.2.2.2.2.2.2.2.1 + (1 : Int32)) then fX2_readStretch_52 (s_2.1, L.2.1, L.2.2.1, L.2.2.2.1, L.2.2.2.2.1, L.2.2.2.2.2.1, L.2.2.2.2.2.2.1, L.2.2.2.2.2.2.2.1, L.2.2.2.2.2.2.2.2.1, L.2.2.2.2.2.2.2.2.2.1, L.2.2.2.2.2.2.2.2.2.2.1, L.2.2.2.2.2.2.2.2.2.2.2) s_2.2 L.2.2.2.2.2.2.2.2.2.1 (0 : Int32) else fX2_readStretch_52 (s_2.1, L.2.1, L.2.2.1, L.2.2.2.1, L.2.2.2.2.1, L.2.2.2.2.2.1, L.2.2.2.2.2.2.1, L.2.2.2.2.2.2.2.1, L.2.2.2.2.2.2.2.2.1, L.2.2.2.2.2.2.2.2.2.1, L.2.2.2.2.2.2.2.2.2.2.1, L.2.2.2.2.2.2.2.2.2.2.2) s_2.2 L.2.2.2.2.2.2.2.2.2.1 (L.2.2.2.2.2.2.2.2.2.1 + (1 : Int32))) else fX2_readStretch_65 (s_2.1, L.2.1, L.2.2.1, L.2.2.2.1, L.2.2.2.2.1, L.2.2.2.2.2.1, L.2.2.2.2.2.2.1, L.2.2.2.2.2.2.2.1, L.2.2.2.2.2.2.2.2.1, (v_1 - (2 : Int32)), L.2.2.2.2.2.2.2.2.2.2.1, L.2.2.2.2.2.2.2.2.2.2.2) s_2.2 L.2.2.2.2.2.2.2.2.2.1))) = some r := h
  refine lv_aload_n hx hb dX2_readStretch_0 rfl (lv_at hl 0 rfl) ?_
  refine va_get (D := D) (ci := 2) (v := .ref (aL 1)) (C := RX2) (T := TX2) (N := 9) hx hb hts xu_X2 hown hK hP 0 rfl rfl 0 (by decide) (hts _ xw_107) (fun _ h9 => h9) rfl dX2_readStretch_1 ?_
  refine lv_aload_n hx hb dX2_readStretch_4 rfl (lv_at hl 1 rfl) ?_
  rcases xi_c h with ⟨E9, s_2, hc9, rfl⟩ | ⟨v_1, s_2, hc9, h⟩
  · exact xc_Vt (As := [.ref (aS 0)]) (ws' := w2 aL K (s_2.1, L.2.1, L.2.2.1, L.2.2.2.1, L.2.2.2.2.1, L.2.2.2.2.2.1, L.2.2.2.2.2.2.1, L.2.2.2.2.2.2.2.1, L.2.2.2.2.2.2.2.2.1, L.2.2.2.2.2.2.2.2.2.1, L.2.2.2.2.2.2.2.2.2.2.1, L.2.2.2.2.2.2.2.2.2.2.2) ++ w4 aS K s_2.2) C (mX1_readSymbol l hlt D K (fun i => aL (i + 1)) aS _ _ _ _ hc9) xgi_X2_69 xd_X1_readSymbol ⟨Nat.le_of_ble_eq_true rfl, Nat.le_of_ble_eq_true rfl⟩ ⟨Nat.le_refl _, Nat.le_refl _⟩ hl rfl (Nat.le_of_ble_eq_true rfl) dX2_readStretch_5 hP hD hS 1 1 rfl rfl rfl [1, 2, 3, 4, 25, 26] rfl rfl [(1, w1 (fun i => aL (i + 1)) K s_2.1), (25, w4 aS K s_2.2)] rfl rfl rfl (List.forall_mem_cons.mpr ⟨Nat.le_of_ble_eq_true rfl, (List.forall_mem_cons.mpr ⟨Nat.le_of_ble_eq_true rfl, (fun _ h => absurd h List.not_mem_nil)⟩)⟩)
  · refine xc_V (As := [.ref (aS 0)]) (ws' := w2 aL K (s_2.1, L.2.1, L.2.2.1, L.2.2.2.1, L.2.2.2.2.1, L.2.2.2.2.2.1, L.2.2.2.2.2.2.1, L.2.2.2.2.2.2.2.1, L.2.2.2.2.2.2.2.2.1, L.2.2.2.2.2.2.2.2.2.1, L.2.2.2.2.2.2.2.2.2.2.1, L.2.2.2.2.2.2.2.2.2.2.2) ++ w4 aS K s_2.2) C (mX1_readSymbol l hlt D K (fun i => aL (i + 1)) aS _ _ _ _ hc9) xgi_X2_69 xd_X1_readSymbol ⟨Nat.le_of_ble_eq_true rfl, Nat.le_of_ble_eq_true rfl⟩ ⟨Nat.zero_le _, Nat.zero_le _⟩ hl rfl (Nat.le_of_ble_eq_true rfl) dX2_readStretch_5 hP hD hS 1 1 rfl rfl rfl [1, 2, 3, 4, 25, 26] rfl rfl [(1, w1 (fun i => aL (i + 1)) K s_2.1), (25, w4 aS K s_2.2)] rfl rfl rfl (List.forall_mem_cons.mpr ⟨Nat.le_of_ble_eq_true rfl, (List.forall_mem_cons.mpr ⟨Nat.le_of_ble_eq_true rfl, (fun _ h => absurd h List.not_mem_nil)⟩)⟩) (fun H locs hP hD hS => ?_)
    refine W.eq (g2 := F0 m 8 ls [.int v_1]) rfl ?_
    refine lv_istore_n (lv' := [(2, .int v_1), (0, .ref (aL 0)), (1, .ref (aS 0))]) hx hb dX2_readStretch_8 rfl hl (by decide) rfl (fun ls hl => ?_)
    refine lv_aload_n hx hb dX2_readStretch_9 rfl (lv_at hl 1 rfl) ?_
    refine va_get (D := D) (ci := 2) (v := .int L.2.2.2.2.2.2.2.2.2.1) (C := RX2) (T := TX2) (N := 9) hx hb hts xu_X2 hown hK hP 0 rfl rfl 6 (by decide) (hts _ xw_113) (fun _ h9 => h9) rfl dX2_readStretch_10 ?_
    refine lv_istore_n (lv' := [(3, .int L.2.2.2.2.2.2.2.2.2.1), (2, .int v_1), (0, .ref (aL 0)), (1, .ref (aS 0))]) hx hb dX2_readStretch_13 rfl hl (by decide) rfl (fun ls hl => ?_)
    refine lv_iload_n hx hb dX2_readStretch_14 rfl (lv_at hl 1 rfl) ?_
    refine lv_if_ne (tgt := 29) hx hb dX2_readStretch_15 (by decide) (fun c9 => ?_) (fun c9 => ?_)
    · replace h := xi_f c9 h
      refine lv_iload_n hx hb dX2_readStretch_29 rfl (lv_at hl 1 rfl) ?_
      refine lv_iconst (v := (1 : Int32)) hx hb dX2_readStretch_30 (by decide) ?_
      refine lv_icmp_ne (tgt := 58) hx hb dX2_readStretch_31 (by decide) (fun c9 => ?_) (fun c9 => ?_)
      · replace h := xi_f c9 h
        refine lv_aload_n hx hb dX2_readStretch_58 rfl (lv_at hl 2 rfl) ?_
        refine lv_iload_n hx hb dX2_readStretch_59 rfl (lv_at hl 1 rfl) ?_
        refine lv_iconst (v := (2 : Int32)) hx hb dX2_readStretch_60 (by decide) ?_
        refine lv_isub hx hb dX2_readStretch_61 ?_
        refine va_put (D := D) (ci := 2) (v := .int (v_1 - (2 : Int32))) (ty := .int) (C := RX2) (T := TX2) (N := 9) hx hb hts xu_X2 tyX2 tyX2_ok nmX2 hown hK hP hD hS 0 rfl rfl 6 (by decide) (hts _ xw_113) (fun _ h9 => h9) rfl (by decide +kernel) rfl rfl (Nat.le_of_ble_eq_true rfl) dX2_readStretch_62 (fun H locs hP hD hS => ?_)
        have hP : va_P D vwCl (w2 aL K (s_2.1, L.2.1, L.2.2.1, L.2.2.2.1, L.2.2.2.2.1, L.2.2.2.2.2.1, L.2.2.2.2.2.2.1, L.2.2.2.2.2.2.2.1, L.2.2.2.2.2.2.2.2.1, (v_1 - (2 : Int32)), L.2.2.2.2.2.2.2.2.2.2.1, L.2.2.2.2.2.2.2.2.2.2.2) ++ w4 aS K s_2.2) H := hP
        have hD : va_D A (w2 aL K (s_2.1, L.2.1, L.2.2.1, L.2.2.2.1, L.2.2.2.2.1, L.2.2.2.2.2.1, L.2.2.2.2.2.2.1, L.2.2.2.2.2.2.2.1, L.2.2.2.2.2.2.2.2.1, (v_1 - (2 : Int32)), L.2.2.2.2.2.2.2.2.2.2.1, L.2.2.2.2.2.2.2.2.2.2.2) ++ w4 aS K s_2.2) := hD
        exact kX2_readStretch_65 C hlt _ _ _ _ h _ _ _ hP hD hS (lv_sub hl [2, 3, 0] rfl)
      · replace h := xi_t c9 h
        refine lv_aload_n hx hb dX2_readStretch_34 rfl (lv_at hl 2 rfl) ?_
        refine lv_iload_n hx hb dX2_readStretch_35 rfl (lv_at hl 0 rfl) ?_
        refine lv_iconst (v := (1 : Int32)) hx hb dX2_readStretch_36 (by decide) ?_
        refine lv_iadd hx hb dX2_readStretch_37 ?_
        refine lv_aload_n hx hb dX2_readStretch_38 rfl (lv_at hl 2 rfl) ?_
        refine va_get (D := D) (ci := 2) (v := .int L.2.2.2.2.2.2.2.2.1) (C := RX2) (T := TX2) (N := 9) hx hb hts xu_X2 hown hK hP 0 rfl rfl 5 (by decide) (hts _ xw_112) (fun _ h9 => h9) rfl dX2_readStretch_39 ?_
        refine lv_icmp_ge (tgt := 51) hx hb dX2_readStretch_42 (by decide) (fun c9 => ?_) (fun c9 => ?_)
        · replace h := xi_t c9 h
          refine lv_iconst (v := (0 : Int32)) hx hb dX2_readStretch_51 (by decide) ?_
          exact kX2_readStretch_52 C hlt _ _ _ _ _ h _ _ _ hP hD hS (lv_sub hl [2, 3, 0] rfl)
        · replace h := xi_f c9 h
          refine lv_iload_n hx hb dX2_readStretch_45 rfl (lv_at hl 0 rfl) ?_
          refine lv_iconst (v := (1 : Int32)) hx hb dX2_readStretch_46 (by decide) ?_
          refine lv_iadd hx hb dX2_readStretch_47 ?_
          refine lv_goto (tgt := 52) hx hb dX2_readStretch_48 (by decide) ?_
          exact kX2_readStretch_52 C hlt _ _ _ _ _ h _ _ _ hP hD hS (lv_sub hl [2, 3, 0] rfl)
    · replace h := xi_t c9 h
      refine lv_aload_n hx hb dX2_readStretch_18 rfl (lv_at hl 2 rfl) ?_
      refine lv_aload_n hx hb dX2_readStretch_19 rfl (lv_at hl 2 rfl) ?_
      refine va_get (D := D) (ci := 2) (v := .int L.2.2.2.2.2.2.2.2.2.2.1) (C := RX2) (T := TX2) (N := 9) hx hb hts xu_X2 hown hK hP 0 rfl rfl 7 (by decide) (hts _ xw_114) (fun _ h9 => h9) rfl dX2_readStretch_20 ?_
      refine va_put (D := D) (ci := 2) (v := .int L.2.2.2.2.2.2.2.2.2.2.1) (ty := .int) (C := RX2) (T := TX2) (N := 9) hx hb hts xu_X2 tyX2 tyX2_ok nmX2 hown hK hP hD hS 0 rfl rfl 6 (by decide) (hts _ xw_113) (fun _ h9 => h9) rfl (by decide +kernel) rfl rfl (Nat.le_of_ble_eq_true rfl) dX2_readStretch_23 (fun H locs hP hD hS => ?_)
      have hP : va_P D vwCl (w2 aL K (s_2.1, L.2.1, L.2.2.1, L.2.2.2.1, L.2.2.2.2.1, L.2.2.2.2.2.1, L.2.2.2.2.2.2.1, L.2.2.2.2.2.2.2.1, L.2.2.2.2.2.2.2.2.1, L.2.2.2.2.2.2.2.2.2.2.1, L.2.2.2.2.2.2.2.2.2.2.1, L.2.2.2.2.2.2.2.2.2.2.2) ++ w4 aS K s_2.2) H := hP
      have hD : va_D A (w2 aL K (s_2.1, L.2.1, L.2.2.1, L.2.2.2.1, L.2.2.2.2.1, L.2.2.2.2.2.1, L.2.2.2.2.2.2.1, L.2.2.2.2.2.2.2.1, L.2.2.2.2.2.2.2.2.1, L.2.2.2.2.2.2.2.2.2.2.1, L.2.2.2.2.2.2.2.2.2.2.1, L.2.2.2.2.2.2.2.2.2.2.2) ++ w4 aS K s_2.2) := hD
      refine lv_goto (tgt := 65) hx hb dX2_readStretch_26 (by decide) ?_
      exact kX2_readStretch_65 C hlt _ _ _ _ h _ _ _ hP hD hS (lv_sub hl [2, 3, 0] rfl)
end
section
abbrev oX2_readMap (aL : Nat → Nat) (aS : Nat → Nat) (K : Nat → ClassId) (r : (String × (S2 × S4)) ⊕ (Unit × (S2 × S4))) : xO := match r with
  | .inl q => .inl (q.1, w2 aL K q.2.1 ++ w4 aS K q.2.2)
  | .inr q => .inr (none, w2 aL K q.2.1 ++ w4 aS K q.2.2)
def fX2_readMap_10 : Nat → S2 → S4 → Int32 → Int32 → Int32 → Option ((String × (S2 × S4)) ⊕ (Unit × (S2 × S4)))
  | 0 => fun _ _ _ _ _ => none
  | fu + 1 => fun L S x2 x3 x4 => (if x3 ≤ x4 then xbnd (fX4_readNumber S (1 : Int32)) (fun E9 s_2 => .inl (E9, (L, s_2))) (fun v_1 s_2 => (if v_1 = (1 : Int32) then xbnd0 (fX2_replacePlaces L x3) (fun v_3 s_4 => some (.inr ((), (s_4, s_2)))) else some (.inr ((), (L, s_2))))) else xbnd (fX4_readNumber S (2 : Int32)) (fun E9 s_6 => .inl (E9, (L, s_6))) (fun v_5 s_6 => (if x4 < 0 ∨ 12 ≤ (x4).toNatClampNeg then none else (if x4 < 0 ∨ 12 ≤ (x4).toNatClampNeg then none else (if ((upd L.2.2.2.2.2.2.1 (x4).toNatClampNeg v_5) (x4).toNatClampNeg) < x2 then fX2_readMap_10 fu (L.1, L.2.1, L.2.2.1, L.2.2.2.1, L.2.2.2.2.1, L.2.2.2.2.2.1, (upd L.2.2.2.2.2.2.1 (x4).toNatClampNeg v_5), L.2.2.2.2.2.2.2.1, L.2.2.2.2.2.2.2.2.1, L.2.2.2.2.2.2.2.2.2.1, L.2.2.2.2.2.2.2.2.2.2.1, L.2.2.2.2.2.2.2.2.2.2.2) s_6 x2 x3 (x4 + (1 : Int32)) else some (.inl ("java/lang/IllegalArgumentException", ((L.1, L.2.1, L.2.2.1, L.2.2.2.1, L.2.2.2.2.1, L.2.2.2.2.2.1, (upd L.2.2.2.2.2.2.1 (x4).toNatClampNeg v_5), L.2.2.2.2.2.2.2.1, L.2.2.2.2.2.2.2.2.1, L.2.2.2.2.2.2.2.2.2.1, L.2.2.2.2.2.2.2.2.2.2.1, L.2.2.2.2.2.2.2.2.2.2.2), s_6))))))))
def fX2_readMap (L : S2) (S : S4) (p2 : Int32) : Option ((String × (S2 × S4)) ⊕ (Unit × (S2 × S4))) := fX2_readMap_10 xF L S p2 (L.2.2.2.2.2.2.2.2.1 * (4 : Int32)) (0 : Int32)
set_option maxHeartbeats 4000000 in
set_option maxRecDepth 100000 in
theorem kX2_readMap_10 {p : Program} {l : Launch} {e : Env} {s : State} {m : MethodId} {args : Array Value} {below : List Frame} {meth : Method} {c : Code} {D : va_G} {K : Nat → ClassId} {A : Nat → Prop} {aL : Nat → Nat} {aS : Nat → Nat} (C : xC p s m args meth c cX2_readMap 5 none yX2_readMap D K A) (hlt : l.stackTraces = false) : ∀ fu : Nat, ∀ (L : S2) (S : S4) (x2 : Int32) (x3 : Int32) (x4 : Int32) (r : (String × (S2 × S4)) ⊕ (Unit × (S2 × S4))), fX2_readMap_10 fu L S x2 x3 x4 = some r → ∀ (H : Heap) (locs : List Loc) (ls : Array Slot), va_P D vwCl (w2 aL K L ++ w4 aS K S) H → va_D A (w2 aL K L ++ w4 aS K S) → va_S A s.heap H locs → lv_has ls 5 [(0, .ref (aL 0)), (1, .ref (aS 0)), (2, .int x2), (3, .int x3), (4, .int x4)] → W p l e (xR 7 113 (oX2_readMap aL aS K r)) s m args below meth c H locs 0 0 (xQ below args s D K A (oX2_readMap aL aS K r)) (F0 m 10 ls []) := by
  obtain ⟨hx, hb, hr, hml, hown, hK, hts, hA, hG, hlk, hte, hnm⟩ := id C
  intro fu
  induction fu with
  | zero =>
    intro L S x2 x3 x4 r h
    exact nomatch (show (none : Option ((String × (S2 × S4)) ⊕ (Unit × (S2 × S4)))) = some r from h)
  | succ fu ih =>
    intro L S x2 x3 x4 r h H locs ls hP hD hS hl
    replace h : (if x3 ≤ x4 then xbnd (fX4_readNumber S (1 : Int32)) (fun E9 s_2 => .inl (E9, (L, s_2))) (fun v_1 s_2 => (if v_1 = (1 : Int32) then xbnd0 (fX2_replacePlaces L x3) (fun v_3 s_4 => some (.inr ((), (s_4, s_2)))) else some (.inr ((), (L, s_2))))) else xbnd (fX4_readNumber S (2 : Int32)) (fun E9 s_6 => .inl (E9, (L, s_6))) (fun v_5 s_6 => (if x4 < 0 ∨ 12 ≤ (x4).toNatClampNeg then none else (if x4 < 0 ∨ 12 ≤ (x4).toNatClampNeg then none else (if ((upd L.2.2.2.2.2.2.1 (x4).toNatClampNeg v_5) (x4).toNatClampNeg) < x2 then fX2_readMap_10 fu (L.1, L.2.1, L.2.2.1, L.2.2.2.1, L.2.2.2.2.1, L.2.2.2.2.2.1, (upd L.2.2.2.2.2.2.1 (x4).toNatClampNeg v_5), L.2.2.2.2.2.2.2.1, L.2.2.2.2.2.2.2.2.1, L.2.2.2.2.2.2.2.2.2.1, L.2.2.2.2.2.2.2.2.2.2.1, L.2.2.2.2.2.2.2.2.2.2.2) s_6 x2 x3 (x4 + (1 : Int32)) else some (.inl ("java/lang/IllegalArgumentException", ((L.1, L.2.1, L.2.2.1, L.2.2.2.1, L.2.2.2.2.1, L.2.2.2.2.2.1, (upd L.2.2.2.2.2.2.1 (x4).toNatClampNeg v_5), L.2.2.2.2.2.2.2.1, L.2.2.2.2.2.2.2.2.1, L.2.2.2.2.2.2.2.2.2.1, L.2.2.2.2.2.2.2.2.2.2.1, L.2.2.2.2.2.2.2.2.2.2.2), s_6)))))))) = some r := h
    refine lv_iload hx hb dX2_readMap_10 (lv_at hl 4 rfl) ?_
    refine lv_iload_n hx hb dX2_readMap_12 rfl (lv_at hl 3 rfl) ?_
    refine lv_icmp_ge (tgt := 55) hx hb dX2_readMap_13 (by decide) (fun c9 => ?_) (fun c9 => ?_)
    · replace h := xi_t c9 h
      refine lv_aload_n hx hb dX2_readMap_55 rfl (lv_at hl 1 rfl) ?_
      refine lv_iconst (v := (1 : Int32)) hx hb dX2_readMap_56 (by decide) ?_
      rcases xi_c h with ⟨E9, s_2, hc9, rfl⟩ | ⟨v_1, s_2, hc9, h⟩
      · exact xc_Vt (As := [.int (1 : Int32)]) (ws' := w2 aL K L ++ w4 aS K s_2) C (mX4_readNumber l hlt D K aS _ _ _ _ hc9) xgi_X2_30 xd_X4_readNumber ⟨Nat.le_of_ble_eq_true rfl, Nat.le_of_ble_eq_true rfl⟩ ⟨Nat.le_refl _, Nat.le_refl _⟩ hl rfl (Nat.le_of_ble_eq_true rfl) dX2_readMap_57 hP hD hS 25 4 rfl rfl rfl [25, 26] rfl rfl [(25, w4 aS K s_2)] rfl rfl rfl (List.forall_mem_cons.mpr ⟨Nat.le_of_ble_eq_true rfl, (fun _ h => absurd h List.not_mem_nil)⟩)
      · refine xc_V (As := [.int (1 : Int32)]) (ws' := w2 aL K L ++ w4 aS K s_2) C (mX4_readNumber l hlt D K aS _ _ _ _ hc9) xgi_X2_30 xd_X4_readNumber ⟨Nat.le_of_ble_eq_true rfl, Nat.le_of_ble_eq_true rfl⟩ ⟨Nat.zero_le _, Nat.zero_le _⟩ hl rfl (Nat.le_of_ble_eq_true rfl) dX2_readMap_57 hP hD hS 25 4 rfl rfl rfl [25, 26] rfl rfl [(25, w4 aS K s_2)] rfl rfl rfl (List.forall_mem_cons.mpr ⟨Nat.le_of_ble_eq_true rfl, (fun _ h => absurd h List.not_mem_nil)⟩) (fun H locs hP hD hS => ?_)
        refine W.eq (g2 := F0 m 60 ls [.int v_1]) rfl ?_
        refine lv_iconst (v := (1 : Int32)) hx hb dX2_readMap_60 (by decide) ?_
        refine lv_icmp_ne (tgt := 69) hx hb dX2_readMap_61 (by decide) (fun c9 => ?_) (fun c9 => ?_)
        · replace h := xi_f c9 h
          obtain rfl := Option.some.inj h
          exact xe_v C hP hD hS dX2_readMap_69
        · replace h := xi_t c9 h
          refine lv_aload_n hx hb dX2_readMap_64 rfl (lv_at hl 0 rfl) ?_
          refine lv_iload_n hx hb dX2_readMap_65 rfl (lv_at hl 3 rfl) ?_
          obtain ⟨v_3, s_4, hc9, h⟩ := xi_d h
          refine xc_V (As := [.int x3]) (ws' := w2 aL K s_4 ++ w4 aS K s_2) C (mX2_replacePlaces l D K aL _ _ _ _ hc9) xgi_X2_79 xd_X2_replacePlaces ⟨Nat.le_of_ble_eq_true rfl, Nat.le_of_ble_eq_true rfl⟩ ⟨Nat.zero_le _, Nat.zero_le _⟩ hl rfl (Nat.le_of_ble_eq_true rfl) dX2_readMap_66 hP hD hS 0 2 rfl rfl rfl [0, 1, 2, 3, 4, 5, 6, 7, 8, 9, 10, 11, 12, 13, 14, 15, 16, 17, 18, 19, 20, 21, 22, 23, 24] rfl rfl [(0, w2 aL K s_4)] rfl rfl rfl (List.forall_mem_cons.mpr ⟨Nat.le_of_ble_eq_true rfl, (fun _ h => absurd h List.not_mem_nil)⟩) (fun H locs hP hD hS => ?_)
          refine W.eq (g2 := F0 m 69 ls []) rfl ?_
          obtain rfl := Option.some.inj h
          exact xe_v C hP hD hS dX2_readMap_69
    · replace h := xi_f c9 h
      refine lv_aload_n hx hb dX2_readMap_16 rfl (lv_at hl 0 rfl) ?_
      refine va_get (D := D) (ci := 2) (v := .ref (aL 23)) (C := RX2) (T := TX2) (N := 9) hx hb hts xu_X2 hown hK hP 0 rfl rfl 3 (by decide) (hts _ xw_110) (fun _ h9 => h9) rfl dX2_readMap_17 ?_
      refine lv_iload hx hb dX2_readMap_20 (lv_at hl 4 rfl) ?_
      refine lv_aload_n hx hb dX2_readMap_22 rfl (lv_at hl 1 rfl) ?_
      refine lv_iconst (v := (2 : Int32)) hx hb dX2_readMap_23 (by decide) ?_
      rcases xi_c h with ⟨E9, s_6, hc9, rfl⟩ | ⟨v_5, s_6, hc9, h⟩
      · exact xc_Vt (As := [.int (2 : Int32)]) (ws' := w2 aL K L ++ w4 aS K s_6) C (mX4_readNumber l hlt D K aS _ _ _ _ hc9) xgi_X2_30 xd_X4_readNumber ⟨Nat.le_of_ble_eq_true rfl, Nat.le_of_ble_eq_true rfl⟩ ⟨Nat.le_refl _, Nat.le_refl _⟩ hl rfl (Nat.le_of_ble_eq_true rfl) dX2_readMap_24 hP hD hS 25 4 rfl rfl rfl [25, 26] rfl rfl [(25, w4 aS K s_6)] rfl rfl rfl (List.forall_mem_cons.mpr ⟨Nat.le_of_ble_eq_true rfl, (fun _ h => absurd h List.not_mem_nil)⟩)
      · refine xc_V (As := [.int (2 : Int32)]) (ws' := w2 aL K L ++ w4 aS K s_6) C (mX4_readNumber l hlt D K aS _ _ _ _ hc9) xgi_X2_30 xd_X4_readNumber ⟨Nat.le_of_ble_eq_true rfl, Nat.le_of_ble_eq_true rfl⟩ ⟨Nat.zero_le _, Nat.zero_le _⟩ hl rfl (Nat.le_of_ble_eq_true rfl) dX2_readMap_24 hP hD hS 25 4 rfl rfl rfl [25, 26] rfl rfl [(25, w4 aS K s_6)] rfl rfl rfl (List.forall_mem_cons.mpr ⟨Nat.le_of_ble_eq_true rfl, (fun _ h => absurd h List.not_mem_nil)⟩) (fun H locs hP hD hS => ?_)
        refine W.eq (g2 := F0 m 27 ls [.int v_5, .int x4, .ref (aL 23)]) rfl ?_
        obtain ⟨hi9, h⟩ := xi_g h
        refine va_iast hx hb hK hP hD hS 23 0 rfl rfl hi9 dX2_readMap_27 (fun H locs hP hD hS => ?_)
        have hP : va_P D vwCl (w2 aL K (L.1, L.2.1, L.2.2.1, L.2.2.2.1, L.2.2.2.2.1, L.2.2.2.2.2.1, (upd L.2.2.2.2.2.2.1 (x4).toNatClampNeg v_5), L.2.2.2.2.2.2.2.1, L.2.2.2.2.2.2.2.2.1, L.2.2.2.2.2.2.2.2.2.1, L.2.2.2.2.2.2.2.2.2.2.1, L.2.2.2.2.2.2.2.2.2.2.2) ++ w4 aS K s_6) H := hP
        have hD : va_D A (w2 aL K (L.1, L.2.1, L.2.2.1, L.2.2.2.1, L.2.2.2.2.1, L.2.2.2.2.2.1, (upd L.2.2.2.2.2.2.1 (x4).toNatClampNeg v_5), L.2.2.2.2.2.2.2.1, L.2.2.2.2.2.2.2.2.1, L.2.2.2.2.2.2.2.2.2.1, L.2.2.2.2.2.2.2.2.2.2.1, L.2.2.2.2.2.2.2.2.2.2.2) ++ w4 aS K s_6) := hD
        refine lv_aload_n hx hb dX2_readMap_28 rfl (lv_at hl 0 rfl) ?_
        refine va_get (D := D) (ci := 2) (v := .ref (aL 23)) (C := RX2) (T := TX2) (N := 9) hx hb hts xu_X2 hown hK hP 0 rfl rfl 3 (by decide) (hts _ xw_110) (fun _ h9 => h9) rfl dX2_readMap_29 ?_
        refine lv_iload hx hb dX2_readMap_32 (lv_at hl 4 rfl) ?_
        obtain ⟨hi9, h⟩ := xi_g h
        refine va_iald hx hb hK hP 23 0 rfl rfl hi9 dX2_readMap_34 ?_
        refine lv_iload_n hx hb dX2_readMap_35 rfl (lv_at hl 2 rfl) ?_
        refine lv_icmp_lt (tgt := 49) hx hb dX2_readMap_36 (by decide) (fun c9 => ?_) (fun c9 => ?_)
        · replace h := xi_t c9 h
          refine lv_iinc (v := (x4 + (1 : Int32))) (lv' := [(4, .int (x4 + (1 : Int32))), (0, .ref (aL 0)), (1, .ref (aS 0)), (2, .int x2), (3, .int x3)]) hx hb dX2_readMap_49 hl (k := 4) rfl (by rfl) (by decide) rfl (fun ls hl => ?_)
          refine lv_goto (tgt := 10) hx hb dX2_readMap_52 (by decide) ?_
          exact ih _ _ _ _ _ _ h _ _ _ hP hD hS (lv_sub hl [1, 2, 3, 4, 0] rfl)
        · replace h := xi_f c9 h
          obtain rfl := Option.some.inj h
          exact xe_throw C hlt (text := "the map tells a code that is not there") xf_IllegalArgumentException xf_names xw_379 xw_44 (List.mem_of_getElem? (i := 11) rfl) xat_X2_44 xgd_X2_44 hl hP hD hS dX2_readMap_39 dX2_readMap_42 dX2_readMap_43 dX2_readMap_45 dX2_readMap_48 (Nat.le_of_ble_eq_true rfl) (Nat.le_of_ble_eq_true rfl)
set_option maxHeartbeats 4000000 in
set_option maxRecDepth 100000 in
theorem mX2_readMap (l : Launch) (hlt : l.stackTraces = false) (D : va_G) (K : Nat → ClassId) (aL : Nat → Nat) (aS : Nat → Nat) (sz : Nat) (L : S2) (S : S4) (p2 : Int32) (r : (String × (S2 × S4)) ⊕ (Unit × (S2 × S4))) (h : fX2_readMap L S p2 = some r) : xMet l yX2_readMap cX2_readMap 5 none 7 113 D K [.ref (aL 0), .ref (aS 0), .int p2] sz (w2 aL K L ++ w4 aS K S) (oX2_readMap aL aS K r) := by
  refine xm_of _ (by decide +kernel) (Nat.le_of_ble_eq_true rfl) (fun p e s m args below meth c A C hP hD ls hl => ?_)
  have hl : lv_has ls 5 [(0, .ref (aL 0)), (1, .ref (aS 0)), (2, .int p2)] := hl
  have hS : va_S A s.heap s.heap [] := va_S.rf
  obtain ⟨hx, hb, hr, hml, hown, hK, hts, hA, hG, hlk, hte, hnm⟩ := id C
  replace h : fX2_readMap_10 xF L S p2 (L.2.2.2.2.2.2.2.2.1 * (4 : Int32)) (0 : Int32) = some r := h
  refine lv_aload_n hx hb dX2_readMap_0 rfl (lv_at hl 0 rfl) ?_
  refine va_get (D := D) (ci := 2) (v := .int L.2.2.2.2.2.2.2.2.1) (C := RX2) (T := TX2) (N := 9) hx hb hts xu_X2 hown hK hP 0 rfl rfl 5 (by decide) (hts _ xw_112) (fun _ h9 => h9) rfl dX2_readMap_1 ?_
  refine lv_iconst (v := (4 : Int32)) hx hb dX2_readMap_4 (by decide) ?_
  refine lv_imul hx hb dX2_readMap_5 ?_
  refine lv_istore_n (lv' := [(3, .int (L.2.2.2.2.2.2.2.2.1 * (4 : Int32))), (0, .ref (aL 0)), (1, .ref (aS 0)), (2, .int p2)]) hx hb dX2_readMap_6 rfl hl (by decide) rfl (fun ls hl => ?_)
  refine lv_iconst (v := (0 : Int32)) hx hb dX2_readMap_7 (by decide) ?_
  refine lv_istore (lv' := [(4, .int (0 : Int32)), (3, .int (L.2.2.2.2.2.2.2.2.1 * (4 : Int32))), (0, .ref (aL 0)), (1, .ref (aS 0)), (2, .int p2)]) hx hb dX2_readMap_8 hl (by decide) rfl (fun ls hl => ?_)
  exact kX2_readMap_10 C hlt _ _ _ _ _ _ _ h _ _ _ hP hD hS (lv_sub hl [2, 3, 4, 1, 0] rfl)
end
