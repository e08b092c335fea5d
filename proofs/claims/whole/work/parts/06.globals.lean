/-! What all methods share: words, statics, strings; contracts; entries, ends, calls. -/
/-- ContextUnfolder$Output.COUNTS_AT_FIRST -/
def xs_counts : Nat → Int32 := fun k => (([0, 0, 0, 0, 0, 4, 11, 15, 16] : List Int32).getD k 0)
/-- ContextUnfolder$Code.SIMPLE_LENGTHS -/
def xs_simple : Nat → Int32 := fun k => (([0, 1, 1, 1, 2, 2, 2, 2, 2, 2, 1, 2, 3, 3] : List Int32).getD k 0)
/-- ContextUnfolder$BlockReader.LEAST_INSERTED -/
def xs_ins : Nat → Int32 := fun k => (([0, 1, 3, 7] : List Int32).getD k 0)
/-- ContextUnfolder$BlockReader.LEAST_COPIED -/
def xs_cop : Nat → Int32 := fun k => (([2, 3, 5, 9] : List Int32).getD k 0)
def xg_S : List (String × Nat × String) := [("ContextUnfolder", 35, "n is not 0 .. 24"), ("ContextUnfolder", 40, "v is not a number of n bits"), ("ContextUnfolder", 48, "there would be more than 2000 bits"), ("ContextUnfolder", 57, "there is no such bit"), ("ContextUnfolder", 64, "the stream has no first n bits"), ("ContextUnfolder$Stream", 24, "the stream ends too early"), ("ContextUnfolder$BlockReader", 49, "there would be more than 400 letters"), ("ContextUnfolder$LetterReader", 42, "there are four types"), ("ContextUnfolder$Code", 52, "a symbol of a simple code is wrong"), ("ContextUnfolder$Code", 57, "a code has too little room"), ("ContextUnfolder$Code", 59, "a code has room left"), ("ContextUnfolder$LetterReader", 77, "the map tells a code that is not there"), ("ContextUnfolder$Code", 44, "there is no such word"), ("ContextUnfolder$BlockReader", 125, "the block would have more than its length"), ("ContextUnfolder$BlockReader", 123, "there is no such word"), ("ContextUnfolder", 77, "there is no such letter"), ("ContextUnfolder", 83, "there is no such number")]
/-- words that hold in warmer tables too -/
def xg_mov (w : Cond) : Bool := match w with
  | .fieldLinkNest .. => true
  | .methodLinkNest .. => true
  | .arrayClass _ => true
  | w => w.onTables && w.keepsFace
theorem xg_warm {w : Cond} {A A' : Array Value} {s U : State} (hm : xg_mov w = true) (hW : s.WarmedH U.vm) (h : w.before A s = true) : w.before A' U = true := by
  have key : (w.onTables && w.keepsFace) = true → w.before A' U = true := by
    intro hk
    simp only [Bool.and_eq_true] at hk
    have h1 : w.before A (s.setVm U.vm) = true := Cond.before_shiftedFace (State.Shifted.of_warmed hW) w hk.2 h
    exact va_tabs hk.1 (rfl : (s.setVm U.vm).vm = U.vm) h1
  cases w with
  | fieldLinkNest a i b n d hh => exact va_Nw.use rfl (va_Nw.warmF hW (va_Nw.of rfl h))
  | methodLinkNest a i x hh => exact va_Nw.use rfl (va_Nw.warmM hW (va_Nw.of rfl h))
  | arrayClass ty => exact word_at hW (Or.inr ⟨ty, rfl⟩) h
  | _ => exact key hm
/-- all words of the tables that keep -/
def xg_B : List Cond := lw_tbl.filter xg_mov
theorem xg_at {w : Cond} (i : Nat) (h : lw_tbl[i]? = some w) (hm : xg_mov w = true) : w ∈ xg_B := List.mem_filter.mpr ⟨List.mem_of_getElem? h, hm⟩
theorem xg_ok {w : Cond} (h : w ∈ xg_B) : xg_mov w = true := (List.mem_filter.mp h).2
theorem xg_ts {A A' : Array Value} {s U : State} (hW : s.WarmedH U.vm) (h : ∀ w ∈ xg_B, w.before A s = true) : ∀ w ∈ xg_B, w.before A' U = true := fun w hw => xg_warm (xg_ok hw) hW (h w hw)
/-- a static array of ints that nobody writes -/
def xg_A (C n : String) (L : Nat) (xs : Nat → Int32) (A : Nat → Prop) (U : State) (H : Heap) : Prop := ∃ r : Nat, va_Z C n "[I" (.ref r) A U H ∧ va_X r L xs U H ∧ r < H.size ∧ ¬ A r
theorem xg_A.warm {C n : String} {L : Nat} {xs : Nat → Int32} {A B : Nat → Prop} {s U : State} {H : Heap} (h : xg_A C n L xs A s H) (hvm : s.vm.Alike U.vm) (hAB : ∀ q, B q → A q) : xg_A C n L xs B U H := by
  obtain ⟨r, h1, h2, h3, h4⟩ := h
  exact ⟨r, (h1.moved hvm).narrow hAB, h2.moved hvm, h3, fun z => h4 (hAB r z)⟩
theorem xg_A.kept {C n : String} {L : Nat} {xs : Nat → Int32} {A : Nat → Prop} {s : State} {H H1 : Heap} (h : xg_A C n L xs A s H) (hz : H.size ≤ H1.size) (hq : ∀ a : Nat, a < H.size → ¬ A a → H1[a]? = H[a]?) : xg_A C n L xs A s H1 := by
  obtain ⟨r, h1, h2, h3, h4⟩ := h
  exact ⟨r, h1.kept hq, h2.kept (hq r h3 h4), Nat.lt_of_lt_of_le h3 hz, h4⟩
/-- what holds beside a method's own world: the words, the statics, the strings -/
def Gd (A : Nat → Prop) (U : State) (H : Heap) : Prop := (∀ w ∈ xg_B, w.before #[] U = true) ∧ (xg_A "ContextUnfolder$Output" "COUNTS_AT_FIRST" 9 xs_counts A U H ∧ xg_A "ContextUnfolder$Code" "SIMPLE_LENGTHS" 14 xs_simple A U H ∧ xg_A "ContextUnfolder$BlockReader" "LEAST_INSERTED" 4 xs_ins A U H ∧ xg_A "ContextUnfolder$BlockReader" "LEAST_COPIED" 4 xs_cop A U H) ∧ (vx_Zq Bundle.tN "UNASSIGNED_STACK" Bundle.steD A U H ∧ vx_Zq Bundle.tN "SUPPRESSED_SENTINEL" Bundle.listD A U H) ∧ (∀ q ∈ xg_S, ∃ sa : Nat, vk_R q.1 q.2.1 q.2.2 sa U) ∧ va_AO RX1 U ∧ va_Nc "java/lang/IllegalStateException" "java/lang/IllegalArgumentException" U
theorem Gd.warm {A B : Nat → Prop} {s U : State} {H : Heap} (h : Gd A s H) (hW : s.WarmedH U.vm) (hAB : ∀ q, B q → A q) : Gd B U H := by
  obtain ⟨h1, ⟨a1, a2, a3, a4⟩, ⟨b1, b2⟩, h4, h5, h6⟩ := h
  have hvm := hW.alike
  refine ⟨xg_ts hW h1, ⟨a1.warm hvm hAB, a2.warm hvm hAB, a3.warm hvm hAB, a4.warm hvm hAB⟩, ⟨(b1.moved hvm).narrow hAB, (b2.moved hvm).narrow hAB⟩, fun q hq => ?_, h5.moved hvm, h6.moved hvm⟩
  obtain ⟨sa, h9⟩ := h4 q hq
  exact ⟨sa, vk_R.warm hW h9⟩
theorem Gd.kept {A : Nat → Prop} {s : State} {H H1 : Heap} (h : Gd A s H) (hz : H.size ≤ H1.size) (hq : ∀ a : Nat, a < H.size → ¬ A a → H1[a]? = H[a]?) : Gd A s H1 := by
  obtain ⟨h1, ⟨a1, a2, a3, a4⟩, ⟨b1, b2⟩, h4⟩ := h
  exact ⟨h1, ⟨a1.kept hz hq, a2.kept hz hq, a3.kept hz hq, a4.kept hz hq⟩, ⟨b1.kept hq, b2.kept hq⟩, h4⟩
/-- the array classes: int, boolean, Code, long -/
abbrev xTy (K : Nat → ClassId) : List (ClassId × FieldType) := [(K 0, .int), (K 1, .boolean), (K 2, .object RX1), (K 3, .long)]
/-- an outcome: thrown (the class, the world), or returned (the answer, the world) -/
abbrev xO : Type := (String × va_W) ⊕ (Option Value × va_W)
def xcl (o : xO) : Nat := match o with | .inl _ => 1 | .inr _ => 0
def xsl (o : xO) : Nat := match o with | .inl _ => 6 | .inr _ => 0
abbrev xR (fr lo : Nat) (o : xO) : Room := { frames := fr, cells := xcl o, slots := xsl o, locals := lo }
/-- how a contract begins -/
def xPre (D : va_G) (K : Nat → ClassId) (av : List Value) (sz : Nat) (W0 : va_W) : Array Value → State → Prop :=
  va_Pc av (fun U => U.heap.size = sz ∧ va_P D vwCl W0 U.heap ∧ va_K D vwCl (xTy K) U ∧ va_D (fun _ => True) W0 ∧ Gd (va_A W0 sz) U U.heap)
theorem xPre_blind {D : va_G} {K : Nat → ClassId} {av : List Value} {sz : Nat} {W0 : va_W} : FrameBlind (xPre D K av sz W0) := by
  intro a U g mk q
  obtain ⟨q0, q1, qP, qK, qD, qG⟩ := q
  exact ⟨q0, q1, qP, va_K.moved (u := U) (U := U.calling g mk a) (Vm.Alike.refl U.vm) qK, qD, qG.warm (U := U.calling g mk a) (State.WarmedH.refl U) (fun _ h => h)⟩
/-- how it ends: returned -/
def xQr (D : va_G) (K : Nat → ClassId) (A : Nat → Prop) (v : Option Value) (W1 : va_W) : Array Value → State → Outcome → State → Prop := fun _ st oc t =>
  (oc = .returned v ∧ va_P D vwCl W1 t.heap ∧ va_K D vwCl (xTy K) t ∧ va_D A W1) ∧ va_F A st t
/-- how it ends: thrown -/
def xQx (D : va_G) (K : Nat → ClassId) (A : Nat → Prop) (E : String) (W1 : va_W) : String → State → State → Prop := fun E' st t =>
  E' = E ∧ va_P D vwCl W1 t.heap ∧ va_K D vwCl (xTy K) t ∧ va_D A W1 ∧ va_F A st t
def xQ (below : List Frame) (args : Array Value) (s : State) (D : va_G) (K : Nat → ClassId) (A : Nat → Prop) (o : xO) : State → Prop := match o with
  | .inr (v, W1) => MQ below (xQr D K A v W1) args s 0 0 A
  | .inl (E, W1) => vx_MQ below (fun _ _ _ _ => False) (xQx D K A E W1) args s 1 6 A
/-- the contract of a method whose outcome at this start is o -/
def xMet (l : Launch) (y : MethodName) (cc : ByteArray) (n : Nat) (ret : Option FieldType) (fr lo : Nat) (D : va_G) (K : Nat → ClassId) (av : List Value) (sz : Nat) (W0 : va_W) (o : xO) : Prop := match o with
  | .inr (v, W1) => Met l y [.code y cc n ret] (xR fr lo (.inr (v, W1))) (xPre D K av sz W0) (xQr D K (va_A W0 sz) v W1) 0 0 (va_A W0 sz)
  | .inl (E, W1) => vx_Met l y [.code y cc n ret] (xR fr lo (.inl (E, W1))) (xPre D K av sz W0) (fun _ _ _ _ => False) (xQx D K (va_A W0 sz) E W1) 1 6 (va_A W0 sz)
/-- what a body has at hand -/
def xC (p : Program) (s : State) (m : MethodId) (args : Array Value) (meth : Method) (c : Code) (cc : ByteArray) (n : Nat) (ret : Option FieldType) (y : MethodName) (D : va_G) (K : Nat → ClassId) (A : Nat → Prop) (tab : List ExceptionTableEntry) : Prop :=
  p.tables.exec = Jvm.exec ∧ c.code = cc ∧ meth.sig.returnType = ret ∧ c.maxLocals = n ∧ s.vm.findClass y.cls = some m.cls ∧ va_K D vwCl (xTy K) s ∧ (∀ w ∈ xg_B, w.before args s = true) ∧ (∀ q, s.heap.size ≤ q → A q) ∧ Gd A s s.heap ∧ meth.locks = false ∧ c.exceptionTable.toList = tab ∧ meth.name = y.name
theorem xm_of {l : Launch} {y : MethodName} {cc : ByteArray} {n : Nat} {ret : Option FieldType} {fr lo : Nat} {D : va_G} {K : Nat → ClassId} {av : List Value} {sz : Nat} {W0 : va_W} (o : xO) (hy : plainName y.cls = true) (hn : (lg_sl av).length ≤ n)
    (body : ∀ (p : Program) (e : Env) (s : State) (m : MethodId) (args : Array Value) (below : List Frame) (meth : Method) (c : Code) (A : Nat → Prop), xC p s m args meth c cc n ret y D K A [] → va_P D vwCl W0 s.heap → va_D A W0 → ∀ ls : Array Slot, lv_has ls n (lv_args 0 av) →
      W p l e (xR fr lo o) s m args below meth c s.heap [] 0 0 (xQ below args s D K A o) (F0 m 0 ls [])) : xMet l y cc n ret fr lo D K av sz W0 o := by
  have main : ∀ (p : Program) (e : Env) (s : State) (m : MethodId) (args : Array Value) (below : List Frame) (meth : Method) (c : Code) (s₁ : State), BodyLoose p l y (headSpec [.code y cc n ret] (xR fr lo o)) cc n ret e s m args below meth c s₁ → c.maxLocals = n → (∀ x ∈ c.exceptionTable.toList, False) → xPre D K av sz W0 args s →
      W p l e (xR fr lo o) s m args below meth c s.heap [] 0 0 (xQ below args s D K (va_A W0 sz) o) (entryFrame m args n) := by
    intro p e s m args below meth c s₁ B hml hte hv
    obtain ⟨rfl, hsz, hP, hK, hD0, hG⟩ := hv
    subst hsz
    have hD := hD0.self (sz := s.heap.size)
    have hl := lv_entry av (n := n) hn
    rw [lg_entry_eq]
    exact body p e s m _ below meth c (va_A W0 s.heap.size) ⟨B.exec, B.bytes, B.returns, hml, findClass_of_methodNamed B.named, hK, xg_ts (State.WarmedH.refl s) hG.1, fun q h => Or.inr h, hG, B.notSynchronized, (List.eq_nil_iff_forall_not_mem.mpr (fun x h => hte x h)), (name_of_methodNamed B.named B.method).1⟩ hP hD _ hl
  have emp : ∀ {p : Program} {e : Env} {s : State} {m : MethodId} {args : Array Value} {below : List Frame} {meth : Method} {c : Code} {s₁ : State}, BodyLoose p l y (headSpec [.code y cc n ret] (xR fr lo o)) cc n ret e s m args below meth c s₁ → ∀ x ∈ c.exceptionTable.toList, False := by
    intro p e s m args below meth c s₁ B x hx
    have h1 := B.noHandlers (atoms_spec (ws := [.code y cc n ret]) B.pre _ List.mem_cons_self)
    have h2 : c.exceptionTable = #[] := Array.isEmpty_iff.mp h1
    rw [h2] at hx
    cases hx
  rcases o with ⟨E, W1⟩ | ⟨v, W1⟩
  · exact vx_ofW (cc := cc) (maxL := n) (ret := ret) hy rfl (fun p e s m args below meth c s₁ B hml hte hv => main p e s m args below meth c s₁ B hml hte hv)
  · exact Met.ofW (cc := cc) (maxL := n) (ret := ret) hy rfl (fun p e s m args below meth c s₁ B hml hv => main p e s m args below meth c s₁ B hml (emp B) hv)
section XE
variable {p : Program} {l : Launch} {e : Env} {R : Room} {s : State} {m : MethodId} {args : Array Value} {below : List Frame} {meth : Method} {c : Code} {H : Heap} {locs : List Loc} {cells slots : Nat} {Q : State → Prop}
variable {cc : ByteArray} {n pc : Nat} {ret : Option FieldType} {y : MethodName} {D : va_G} {K : Nat → ClassId} {A : Nat → Prop} {tab : List ExceptionTableEntry} {ls : Array Slot} {W1 : va_W} {rest : List Value}
theorem xe_end (C : xC p s m args meth c cc n ret y D K A tab) (hP : va_P D vwCl W1 H) (hD : va_D A W1) (hS : va_S A s.heap H locs) (v : Option Value) : ∀ t : State, t.heap = H → s.WarmedH t.vm → xQr D K A v W1 args s (.returned v) t := by
  intro t ht hW
  refine ⟨⟨rfl, by rw [ht]; exact hP, va_K.moved hW.alike C.2.2.2.2.2.1, hD⟩, ?_⟩
  exact hS.F ht
theorem xe_v (C : xC p s m args meth c cc n none y D K A tab) (hP : va_P D vwCl W1 H) (hD : va_D A W1) (hS : va_S A s.heap H locs) (d : decode cc pc = .ok (.return_, 1)) : W p l e R s m args below meth c H locs 0 0 (xQ below args s D K A (.inr (none, W1))) (F0 m pc ls []) := by
  have hlocks : meth.locks = false := C.2.2.2.2.2.2.2.2.2.1
  exact W.vret C.1 C.2.1 C.2.2.1 (xe_end C hP hD hS none) hS.2.2 d
theorem xe_i {r : Int32} (C : xC p s m args meth c cc n (some .int) y D K A tab) (hP : va_P D vwCl W1 H) (hD : va_D A W1) (hS : va_S A s.heap H locs) (d : decode cc pc = .ok (.ireturn, 1)) : W p l e R s m args below meth c H locs 0 0 (xQ below args s D K A (.inr (some (.int r), W1))) (F0 m pc ls [.int r]) := by
  have hlocks : meth.locks = false := C.2.2.2.2.2.2.2.2.2.1
  exact W.iret C.1 C.2.1 C.2.2.1 (xe_end C hP hD hS (some (.int r))) hS.2.2 d
theorem xe_z {r : Int32} (C : xC p s m args meth c cc n (some .boolean) y D K A tab) (hn : narrow .boolean (.int r) = .int r) (hP : va_P D vwCl W1 H) (hD : va_D A W1) (hS : va_S A s.heap H locs) (d : decode cc pc = .ok (.ireturn, 1)) : W p l e R s m args below meth c H locs 0 0 (xQ below args s D K A (.inr (some (.int r), W1))) (F0 m pc ls [.int r]) := by
  have hlocks : meth.locks = false := C.2.2.2.2.2.2.2.2.2.1
  exact W.zret C.1 C.2.1 C.2.2.1 hn (xe_end C hP hD hS (some (.int r))) hS.2.2 d
/-- throw new cls("text") -/
theorem xe_throw (C : xC p s m args meth c cc n ret y D K A []) (hl : l.stackTraces = false) {cls text : String} {names : List String} {ik is ic : Nat} (hcls : Bundle.fit cls = true) (hnames : ∀ n ∈ names, Bundle.fit n = true)
    (hk : Cond.classLink y.cls ik cls ∈ xg_B) (hini : Cond.initialized cls ∈ xg_B) (hstr : (y.cls, is, text) ∈ xg_S) (hat : ∀ w ∈ vx_atS y.cls ic cls names, w ∈ xg_B) (hgood : ∀ w ∈ Cond.classLink y.cls ik cls :: Cond.initialized cls :: vx_atS y.cls ic cls names, vx_ot w = true)
    {lv : List (Nat × Value)} (hsz : lv_has ls n lv) (hP : va_P D vwCl W1 H) (hD : va_D A W1) (hS : va_S A s.heap H locs)
    (d0 : decode cc pc = .ok (.new ik, 3)) (d3 : decode cc (pc + 3) = .ok (.dup, 1)) (d4 : decode cc (pc + 4) = .ok (.ldc is, 2)) (d6 : decode cc (pc + 6) = .ok (.invokespecial ic, 3)) (d9 : decode cc (pc + 9) = .ok (.athrow, 1))
    {fr lo : Nat} (hRf : names.length + 3 < fr) (hRl : (rest.map fun v => v.category).sum + (13 * (names.length + 1) + 43) ≤ lo) :
    W p l e (xR fr lo (.inl (cls, W1))) s m args below meth c H locs 0 0 (xQ below args s D K A (.inl (cls, W1))) (F0 m pc ls rest) := by
  obtain ⟨hx, hb, hr, hml, hown, hK, hts, hA, hG, hlk, hte, -⟩ := C
  obtain ⟨sa, hsa⟩ := hG.2.2.2.1 _ hstr
  refine vx_throwS (text := text) (sa := sa) hx hb hl hown hcls hnames (hts _ hk) (hts _ hini) hsa (fun w hw => hts _ (hat w hw)) hgood hG.2.2.1.1 hG.2.2.1.2 hS (by rw [hml]; exact hsz.1) d0 d3 d4 d6 d9 (fun x h => by rw [hte] at h; cases h) hRf hRl (by show 0 + 1 ≤ 1; decide) (by show 0 + 6 ≤ 6; decide) hlk ?_ hS.2.2 (by decide) (by decide)
  intro t hal hz hq
  have hP1 : va_P D vwCl W1 t.heap := fun k q h => (hP k q h).kept (hq _ (hP k q h).lt)
  exact ⟨rfl, hP1, va_K.moved hal hK, hD, Nat.le_trans hS.1 hz, fun q h1 h2 => by rw [hq q (Nat.lt_of_lt_of_le h1 hS.1)]; exact hS.2.1 q h1 h2⟩
end XE
section XCALL
variable {p : Program} {l : Launch} {e : Env} {R : Room} {s : State} {m : MethodId} {args : Array Value} {below : List Frame} {meth : Method} {c : Code} {H : Heap} {locs : List Loc} {cells slots : Nat} {Q : State → Prop}
variable {cc : ByteArray} {n pc : Nat} {ret : Option FieldType} {y : MethodName} {D : va_G} {K : Nat → ClassId} {A : Nat → Prop} {tab : List ExceptionTableEntry} {ls : Array Slot} {rest st0 : List Value} {a : Array Value}
variable {ws ws' Wc Wn : va_W}
theorem xc_fm {w w' : va_W} {is : List Nat} (h : is.map (fun i => w[i]?) = w'.map some) : is.filterMap (fun i => w[i]?) = w' := by
  have h1 : is.filterMap (fun i => w[i]?) = (is.map (fun i => w[i]?)).filterMap id := by rw [List.filterMap_map]; rfl
  rw [h1, h, List.filterMap_map]
  have h2 : (id ∘ some : (Nat × va_E) → Option (Nat × va_E)) = some := rfl
  rw [h2, List.filterMap_some]
theorem xc_in {is : List Nat} {w w' : va_W} (h : is.map (fun i => w[i]?) = w'.map some) {j : Nat} {q : Nat × va_E} (hq : w'[j]? = some q) : ∃ i, is[j]? = some i ∧ w[i]? = some q := by
  have h1 : (is.map (fun i => w[i]?))[j]? = some (some q) := by rw [h, List.getElem?_map, hq]; rfl
  rw [List.getElem?_map] at h1
  cases hi : is[j]? with
  | none => rw [hi] at h1; cases h1
  | some i =>
    rw [hi] at h1
    exact ⟨i, rfl, Option.some.inj h1⟩
/-- other cells from the place o on -/
def xrep (w : va_W) (o : Nat) (es : va_W) : va_W := w.take o ++ (es ++ w.drop (o + es.length))
theorem xrep_len {w : va_W} {o : Nat} {es : va_W} (h : o + es.length ≤ w.length) : (xrep w o es).length = w.length := by
  simp only [xrep, List.length_append, List.length_take, List.length_drop]
  omega
theorem xrep_at {w : va_W} {o : Nat} {es : va_W} (h : o + es.length ≤ w.length) {k : Nat} {q : Nat × va_E} (hq : (xrep w o es)[k]? = some q) : (∃ j : Nat, j < es.length ∧ k = o + j ∧ es[j]? = some q) ∨ ((k < o ∨ o + es.length ≤ k) ∧ w[k]? = some q) := by
  have ht : (w.take o).length = o := by rw [List.length_take]; omega
  unfold xrep at hq
  by_cases h1 : k < o
  · rw [List.getElem?_append_left (by omega), List.getElem?_take] at hq
    rw [if_pos h1] at hq
    exact Or.inr ⟨Or.inl h1, hq⟩
  · rw [List.getElem?_append_right (by omega), ht] at hq
    by_cases h2 : k - o < es.length
    · rw [List.getElem?_append_left h2] at hq
      exact Or.inl ⟨k - o, h2, by omega, hq⟩
    · rw [List.getElem?_append_right (by omega), List.getElem?_drop] at hq
      have e1 : o + es.length + (k - o - es.length) = k := by omega
      rw [e1] at hq
      exact Or.inr ⟨Or.inr (by omega), hq⟩
def xput (w : va_W) : List (Nat × va_W) → va_W
  | [] => w
  | q :: t => xrep (xput w t) q.1 q.2
def xidx : List (Nat × va_W) → List Nat
  | [] => []
  | q :: t => List.range' q.1 q.2.length ++ xidx t
def xcat : List (Nat × va_W) → va_W
  | [] => []
  | q :: t => match t with
    | [] => q.2
    | _ :: _ => q.2 ++ xcat t
theorem xcat_cons (q : Nat × va_W) (t : List (Nat × va_W)) : xcat (q :: t) = q.2 ++ xcat t := by
  cases t with
  | nil => show q.2 = q.2 ++ []; rw [List.append_nil]
  | cons a b => rfl
theorem xput_len {w : va_W} : ∀ (sg : List (Nat × va_W)), (∀ q ∈ sg, q.1 + q.2.length ≤ w.length) → (xput w sg).length = w.length := by
  intro sg
  induction sg with
  | nil => intro _; rfl
  | cons q t ih =>
    intro h
    have h1 := ih (fun z hz => h z (List.mem_cons_of_mem _ hz))
    show (xrep (xput w t) q.1 q.2).length = _
    rw [xrep_len (by rw [h1]; exact h q List.mem_cons_self), h1]
theorem xput_at {w : va_W} : ∀ (sg : List (Nat × va_W)), (∀ q ∈ sg, q.1 + q.2.length ≤ w.length) → ∀ (k : Nat) (q : Nat × va_E), (xput w sg)[k]? = some q → (∃ j : Nat, (xidx sg)[j]? = some k ∧ (xcat sg)[j]? = some q) ∨ (k ∉ xidx sg ∧ w[k]? = some q) := by
  intro sg
  induction sg with
  | nil => intro _ k q h; exact Or.inr ⟨List.not_mem_nil, h⟩
  | cons z t ih =>
    intro h k q hq
    have hl := xput_len t (fun z hz => h z (List.mem_cons_of_mem _ hz))
    rw [xcat_cons]
    show (∃ j : Nat, (List.range' z.1 z.2.length ++ xidx t)[j]? = some k ∧ _) ∨ (k ∉ List.range' z.1 z.2.length ++ xidx t ∧ _)
    rcases xrep_at (by rw [hl]; exact h z List.mem_cons_self) hq with ⟨j, h1, h2, h3⟩ | ⟨h1, h2⟩
    · refine Or.inl ⟨j, ?_, ?_⟩
      · rw [List.getElem?_append_left (by rw [List.length_range']; exact h1), List.getElem?_range' h1, h2]
        simp
      · rw [List.getElem?_append_left h1]; exact h3
    · rcases ih (fun z hz => h z (List.mem_cons_of_mem _ hz)) k q h2 with ⟨j, h3, h4⟩ | ⟨h3, h4⟩
      · refine Or.inl ⟨j + z.2.length, ?_, ?_⟩
        · rw [List.getElem?_append_right (by rw [List.length_range']; omega), List.length_range', Nat.add_sub_cancel]; exact h3
        · rw [List.getElem?_append_right (by omega), Nat.add_sub_cancel]; exact h4
      · refine Or.inr ⟨fun hm => ?_, h4⟩
        rcases List.mem_append.mp hm with h5 | h5
        · rw [List.mem_range'] at h5
          obtain ⟨i, h6, h7⟩ := h5
          omega
        · exact h3 h5
/-- the world behind a call: the callee's cells as they came back, the rest as it was -/
theorem xc_join {H1 : Heap} (hP : va_P D vwCl ws H) (hD : va_D A ws) (hA : ∀ q, s.heap.size ≤ q → A q) (hS : va_S A s.heap H locs) (isC : List Nat) (hC : isC.map (fun i => ws[i]?) = Wc.map some) (sg : List (Nat × va_W)) (hsI : xidx sg = isC) (hsC : xcat sg = Wn) (hsW : xput ws sg = ws') (hsB : ∀ q ∈ sg, q.1 + q.2.length ≤ ws.length)
    (hP1 : va_P D vwCl Wn H1) (hD1 : va_D (va_A Wc H.size) Wn) (hk : ∀ q : Nat, q < H.size → ¬ va_A Wc H.size q → H1[q]? = H[q]?) :
    va_P D vwCl ws' H1 ∧ va_D A ws' := by
  have hF := va_free hD hS hA isC hC
  have apart : ∀ (k : Nat) (q : Nat × va_E), k ∉ isC → ws[k]? = some q → q.1 < H.size ∧ ¬ va_A Wc H.size q.1 := by
    intro k q hk1 hq
    have hl := (hP k q hq).lt
    refine ⟨hl, fun h => ?_⟩
    rcases h with ⟨j, e9, h⟩ | h
    · obtain ⟨i, h1, h2⟩ := xc_in hC h
      have := hD.1 k i q (q.1, e9) hq h2 rfl
      subst this
      exact hk1 (List.mem_of_getElem? h1)
    · exact absurd hl (Nat.not_lt.mpr h)
  have at9 : ∀ {k : Nat} {q : Nat × va_E}, ws'[k]? = some q → (∃ j : Nat, isC[j]? = some k ∧ Wn[j]? = some q) ∨ (k ∉ isC ∧ ws[k]? = some q) := fun h => by
    subst hsI; subst hsC; subst hsW
    exact xput_at sg hsB _ _ h
  refine ⟨fun k q hq => ?_, fun i j p q hi hj hpq => ?_, fun k q hq => ?_⟩
  · rcases at9 hq with ⟨j, -, h2⟩ | ⟨h1, h2⟩
    · exact hP1 j q h2
    · obtain ⟨g1, g2⟩ := apart k q h1 h2
      exact (hP k q h2).kept (hk q.1 g1 g2)
  · rcases at9 hi with ⟨i', a1, a2⟩ | ⟨a1, a2⟩
    · rcases at9 hj with ⟨j', b1, b2⟩ | ⟨b1, b2⟩
      · have h9 := hD1.1 i' j' p q a2 b2 hpq
        subst h9
        exact Option.some.inj (a1.symm.trans b1)
      · exact absurd (hpq ▸ hD1.2 i' p a2) (apart j q b1 b2).2
    · rcases at9 hj with ⟨j', b1, b2⟩ | ⟨b1, b2⟩
      · exact absurd (hpq ▸ hD1.2 j' q b2) (apart i p a1 a2).2
      · exact hD.1 i j p q a2 b2 hpq
  · rcases at9 hq with ⟨j, -, h2⟩ | ⟨h1, h2⟩
    · exact hF _ (hD1.2 j q h2)
    · exact hD.2 k q h2
theorem xc_stay {H1 : Heap} {L : List Loc} (hD : va_D A ws) (hA : ∀ q, s.heap.size ≤ q → A q) (hS : va_S A s.heap H locs) (isC : List Nat) (hC : isC.map (fun i => ws[i]?) = Wc.map some) (hL : ∀ q ∈ L, va_A Wc H.size q.base) (hz : H.size ≤ H1.size) (hk : ∀ q : Nat, q < H.size → ¬ va_A Wc H.size q → H1[q]? = H[q]?) : va_S A s.heap H1 (locs ++ L) := by
  have hF := va_free hD hS hA isC hC
  refine ⟨Nat.le_trans hS.1 hz, fun q h1 h2 => ?_, fun q hq => ?_⟩
  · rw [hk q (Nat.lt_of_lt_of_le h1 hS.1) (fun z => h2 (hF q z))]
    exact hS.2.1 q h1 h2
  · rcases List.mem_append.mp hq with h | h
    · exact hS.2.2 q h
    · exact hF _ (hL q h)
theorem xc_ret {v : Option Value} (hr : va_Run p l e R s m args below meth c H locs cells slots 0 0 (F0 m pc ls st0) rest (xQr D K (va_A Wc H.size) v Wn a) (va_A Wc H.size)) (hA : ∀ q, s.heap.size ≤ q → A q)
    (hP : va_P D vwCl ws H) (hD : va_D A ws) (hS : va_S A s.heap H locs) (isC : List Nat) (hC : isC.map (fun i => ws[i]?) = Wc.map some) (sg : List (Nat × va_W)) (hsI : xidx sg = isC) (hsC : xcat sg = Wn) (hsW : xput ws sg = ws') (hsB : ∀ q ∈ sg, q.1 + q.2.length ≤ ws.length)
    (kk : ∀ (H1 : Heap) (locs1 : List Loc), va_P D vwCl ws' H1 → va_D A ws' → va_S A s.heap H1 locs1 → W p l e R s m args below meth c H1 locs1 cells slots Q (F0 m (pc + 3) ls (v.toList ++ rest))) : W p l e R s m args below meth c H locs cells slots Q (F0 m pc ls st0) := by
  intro T hT X
  obtain ⟨v', st₀, t, T', L, h0, X', hL, e1, e2, ⟨⟨hv, hP1, hK1, hD1⟩, hz, hk⟩, st⟩ := hr T hT X
  cases hv
  rw [h0] at hz hk
  rw [← e1] at hP1 hz hk
  obtain ⟨j1, j2⟩ := xc_join hP hD hA hS isC hC sg hsI hsC hsW hsB hP1 hD1 hk
  obtain ⟨t2, a1, b1⟩ := kk T'.heap (locs ++ L) j1 j2 (xc_stay hD hA hS isC hC hL hz hk) T' rfl X'
  exact ⟨t2, st t2 a1, b1⟩
theorem xc_thr {E : String} (hr : vx_Run p l e R s m args below meth c H locs 0 0 1 6 (F0 m pc ls st0) rest (fun _ _ _ => False) (xQx D K (va_A Wc H.size) E Wn) (va_A Wc H.size)) (C : xC p s m args meth c cc n ret y D K A [])
    (hP : va_P D vwCl ws H) (hD : va_D A ws) (hS : va_S A s.heap H locs) (isC : List Nat) (hC : isC.map (fun i => ws[i]?) = Wc.map some) (sg : List (Nat × va_W)) (hsI : xidx sg = isC) (hsC : xcat sg = Wn) (hsW : xput ws sg = ws') (hsB : ∀ q ∈ sg, q.1 + q.2.length ≤ ws.length) :
    W p l e R s m args below meth c H locs 0 0 (xQ below args s D K A (.inl (E, ws'))) (F0 m pc ls st0) := by
  obtain ⟨hx, hb, hrt, hml, hown, hK, hts, hA, hG, hlk, hte, -⟩ := C
  intro T hT X
  rcases hr T hT X with ⟨v, st₀, t, T', L, h0, X', hL, e1, e2, hq, st⟩ | ⟨q, st₀, t, T', L, E', ce, h0, X', hL, e1, e2, ⟨hE, hP1, hK1, hD1, hz, hk⟩, hce, hcv, hcl, st⟩
  · exact hq.elim
  · subst hE
    rw [h0] at hz hk
    rw [← e1] at hP1 hz hk hce
    obtain ⟨j1, j2⟩ := xc_join hP hD hA hS isC hC sg hsI hsC hsW hsB hP1 hD1 hk
    have j3 := xc_stay hD hA hS isC hC hL hz hk
    obtain ⟨t2, a1, b1⟩ := vx_out (Qc := fun _ _ _ _ => False) (XC := xQx D K A E' ws') (args := args) (mc := 1) (ms := 6) (free := A) (ls := ls) (rest := rest) (pc := pc) (fun x h => by rw [hte] at h; cases h) hlk hce hcv hcl
      (fun t ht hal => ⟨rfl, by rw [ht]; exact j1, va_K.moved hal hK, j2, j3.F ht⟩) j3.2.2 (Nat.le_refl _) (Nat.le_refl _) T' rfl X'
    exact ⟨t2, st.trans a1, b1⟩
/-- a callee's start out of the caller's world -/
theorem xc_pre (C : xC p s m args meth c cc n ret y D K A tab) (hP : va_P D vwCl ws H) (hD : va_D A ws) (hS : va_S A s.heap H locs) (isC : List Nat) (hn : va_nd isC = true) (hC : isC.map (fun i => ws[i]?) = Wc.map some) (av : List Value) : PreS s H (xPre D K av H.size Wc) av := by
  obtain ⟨hx, hb, hrt, hml, hown, hK, hts, hA, hG, hlk, hte, -⟩ := C
  refine ⟨xPre_blind, fun U hU hW => ⟨rfl, by rw [hU], by rw [hU]; exact hP.sub isC (xc_fm hC), va_K.moved hW.alike hK, (hD.sub isC hn hC).weaken (fun _ _ _ _ => trivial), ?_⟩⟩
  rw [hU]
  exact (hG.kept hS.1 hS.2.1).warm hW (va_free hD hS hA isC hC)
variable {yc : MethodName} {bc : ByteArray} {nc fr lo ix : Nat} {rc : Option FieldType} {As : List Value} {b : Nat} {lv : List (Nat × Value)}
theorem xc_good {own : String} {C : String} (h1 : Cond.methodLink own ix yc ∈ xg_B) (h2 : Cond.instanceMethod yc ∈ xg_B) (h3 : Cond.selects C yc yc ∈ xg_B) (h4 : Cond.initialized C ∈ xg_B) (h5 : Cond.code yc bc nc rc ∈ xg_B) (hg : (wsV own ix C yc [Cond.code yc bc nc rc]).all goodWord = true) : GoodIn xg_B (wsV own ix C yc [Cond.code yc bc nc rc]) := by
  intro w hw
  refine ⟨?_, good_of_word (List.all_eq_true.mp hg w hw)⟩
  simp only [wsV, List.cons_append, List.nil_append, List.mem_cons, List.not_mem_nil, or_false] at hw
  rcases hw with rfl | rfl | rfl | rfl | rfl
  · exact h1
  · exact h2
  · exact h3
  · exact h4
  · exact h5
theorem xc_goodS {own : String} (h1 : Cond.methodLink own ix yc ∈ xg_B) (h2 : Cond.static yc ∈ xg_B) (h4 : Cond.initialized own ∈ xg_B) (h5 : Cond.code yc bc nc rc ∈ xg_B) (hg : (wsS own ix yc [Cond.code yc bc nc rc]).all goodWord = true) : GoodIn xg_B (wsS own ix yc [Cond.code yc bc nc rc]) := by
  intro w hw
  refine ⟨?_, good_of_word (List.all_eq_true.mp hg w hw)⟩
  simp only [wsS, List.cons_append, List.nil_append, List.mem_cons, List.not_mem_nil, or_false] at hw
  rcases hw with rfl | rfl | rfl | rfl
  · exact h1
  · exact h2
  · exact h4
  · exact h5
theorem xc_goodQ {own : String} (h1 : Cond.methodLink own ix yc ∈ xg_B) (h2 : Cond.static yc ∈ xg_B) (h4 : Cond.initialized yc.cls ∈ xg_B) (h5 : Cond.code yc bc nc rc ∈ xg_B) (hg : (va_wsS own ix yc [Cond.code yc bc nc rc]).all goodWord = true) : GoodIn xg_B (va_wsS own ix yc [Cond.code yc bc nc rc]) := by
  intro w hw
  refine ⟨?_, good_of_word (List.all_eq_true.mp hg w hw)⟩
  simp only [va_wsS, List.cons_append, List.nil_append, List.mem_cons, List.not_mem_nil, or_false] at hw
  rcases hw with rfl | rfl | rfl | rfl
  · exact h1
  · exact h2
  · exact h4
  · exact h5
/-- a call by invokevirtual that returns -/
theorem xc_V {v : Option Value} (C : xC p s m args meth c cc n ret y D K A tab) (hM : xMet l yc bc nc rc fr lo D K (.ref b :: As) H.size Wc (.inr (v, Wn))) (hG : GoodIn xg_B (wsV y.cls ix yc.cls yc [Cond.code yc bc nc rc]))
    (hd : yc.cls ≠ "java/lang/invoke/MethodHandle" ∧ yc.cls ≠ "java/lang/invoke/VarHandle" ∧ (parseMethodDescriptor yc.desc).map (fun d => d.parameters.length) = some As.length) (hRm : fr + 1 ≤ R.frames ∧ 8 + (nc + 11) + lo ≤ R.locals) (hf : cells ≤ R.cells ∧ slots ≤ R.slots)
    (hl : lv_has ls n lv) (hst : st0 = As.reverse ++ .ref b :: rest) (hw : (rest.map fun v => v.category).sum ≤ 8) (hdg : decode cc pc = .ok (.invokevirtual ix, 3))
    (hP : va_P D vwCl ws H) (hD : va_D A ws) (hS : va_S A s.heap H locs) (q0 ci : Nat) {qc : vw_C} {fs : List Value} (hci : vwCl[ci]? = some qc) (hcn : qc.1 = yc.cls) (hq0 : ws[q0]? = some (b, .inr (ci, fs)))
    (isC : List Nat) (hnC : va_nd isC = true) (hC : isC.map (fun i => ws[i]?) = Wc.map some) (sg : List (Nat × va_W)) (hsI : xidx sg = isC) (hsC : xcat sg = Wn) (hsW : xput ws sg = ws') (hsB : ∀ q ∈ sg, q.1 + q.2.length ≤ ws.length)
    (kk : ∀ (H1 : Heap) (locs1 : List Loc), va_P D vwCl ws' H1 → va_D A ws' → va_S A s.heap H1 locs1 → W p l e R s m args below meth c H1 locs1 cells slots Q (F0 m (pc + 3) ls (v.toList ++ rest))) : W p l e R s m args below meth c H locs cells slots Q (F0 m pc ls st0) := by
  have hpre := xc_pre C hP hD hS isC hnC hC (.ref b :: As)
  have hrec := va_recv C.2.2.2.2.2.1 hP hci hq0
  rw [hcn] at hrec
  refine xc_ret (a := (Value.ref b :: As).toArray) (va_runV (As := As) (rest := rest) (b := b) ⟨C.1, C.2.1, C.2.2.2.1, C.2.2.2.2.1, C.2.2.2.2.2.2.1⟩ hM (cwV As.length C.2.2.2.2.2.2.1 hG rfl rfl rfl ⟨rfl, hd⟩ hRm) ⟨hpre.1, hrec, hpre.2⟩ rfl rfl hl.1 hst (lv_room hw) hdg hf) C.2.2.2.2.2.2.2.1 hP hD hS isC hC sg hsI hsC hsW hsB kk
/-- a call by invokevirtual that throws -/
theorem xc_Vt {E : String} (C : xC p s m args meth c cc n ret y D K A []) (hM : xMet l yc bc nc rc fr lo D K (.ref b :: As) H.size Wc (.inl (E, Wn))) (hG : GoodIn xg_B (wsV y.cls ix yc.cls yc [Cond.code yc bc nc rc]))
    (hd : yc.cls ≠ "java/lang/invoke/MethodHandle" ∧ yc.cls ≠ "java/lang/invoke/VarHandle" ∧ (parseMethodDescriptor yc.desc).map (fun d => d.parameters.length) = some As.length) (hRm : fr + 1 ≤ R.frames ∧ 8 + (nc + 11) + lo ≤ R.locals) (hf : 1 ≤ R.cells ∧ 6 ≤ R.slots)
    (hl : lv_has ls n lv) (hst : st0 = As.reverse ++ .ref b :: rest) (hw : (rest.map fun v => v.category).sum ≤ 8) (hdg : decode cc pc = .ok (.invokevirtual ix, 3))
    (hP : va_P D vwCl ws H) (hD : va_D A ws) (hS : va_S A s.heap H locs) (q0 ci : Nat) {qc : vw_C} {fs : List Value} (hci : vwCl[ci]? = some qc) (hcn : qc.1 = yc.cls) (hq0 : ws[q0]? = some (b, .inr (ci, fs)))
    (isC : List Nat) (hnC : va_nd isC = true) (hC : isC.map (fun i => ws[i]?) = Wc.map some) (sg : List (Nat × va_W)) (hsI : xidx sg = isC) (hsC : xcat sg = Wn) (hsW : xput ws sg = ws') (hsB : ∀ q ∈ sg, q.1 + q.2.length ≤ ws.length) :
    W p l e R s m args below meth c H locs 0 0 (xQ below args s D K A (.inl (E, ws'))) (F0 m pc ls st0) := by
  have hpre := xc_pre C hP hD hS isC hnC hC (.ref b :: As)
  have hrec := va_recv C.2.2.2.2.2.1 hP hci hq0
  rw [hcn] at hrec
  refine xc_thr (vx_runV (As := As) (rest := rest) (b := b) ⟨C.1, C.2.1, C.2.2.2.1, C.2.2.2.2.1, C.2.2.2.2.2.2.1⟩ hM (cwV As.length C.2.2.2.2.2.2.1 hG rfl rfl rfl ⟨rfl, hd⟩ hRm) ⟨hpre.1, hrec, hpre.2⟩ rfl rfl hl.1 hst (lv_room hw) hdg (by rw [Nat.zero_add, Nat.zero_add]; exact hf)) C hP hD hS isC hC sg hsI hsC hsW hsB
/-- a call by invokevirtual that throws, caught by a row of this method's own table -/
theorem xc_Vc {E name : String} (C : xC p s m args meth c cc n ret y D K A tab) (hM : xMet l yc bc nc rc fr lo D K (.ref b :: As) H.size Wc (.inl (E, Wn))) (hG : GoodIn xg_B (wsV y.cls ix yc.cls yc [Cond.code yc bc nc rc]))
    (hd : yc.cls ≠ "java/lang/invoke/MethodHandle" ∧ yc.cls ≠ "java/lang/invoke/VarHandle" ∧ (parseMethodDescriptor yc.desc).map (fun d => d.parameters.length) = some As.length) (hRm : fr + 1 ≤ R.frames ∧ 8 + (nc + 11) + lo ≤ R.locals) (hf : cells + 1 ≤ R.cells ∧ slots + 6 ≤ R.slots)
    (hl : lv_has ls n lv) (hst : st0 = As.reverse ++ .ref b :: rest) (hw : (rest.map fun v => v.category).sum ≤ 8) (hdg : decode cc pc = .ok (.invokevirtual ix, 3))
    (hP : va_P D vwCl ws H) (hD : va_D A ws) (hS : va_S A s.heap H locs) (q0 ci : Nat) {qc : vw_C} {fs : List Value} (hci : vwCl[ci]? = some qc) (hcn : qc.1 = yc.cls) (hq0 : ws[q0]? = some (b, .inr (ci, fs)))
    (isC : List Nat) (hnC : va_nd isC = true) (hC : isC.map (fun i => ws[i]?) = Wc.map some) (sg : List (Nat × va_W)) (hsI : xidx sg = isC) (hsC : xcat sg = Wn) (hsW : xput ws sg = ws') (hsB : ∀ q ∈ sg, q.1 + q.2.length ≤ ws.length)
    (pre : List ExceptionTableEntry) (x : ExceptionTableEntry) (suf : List ExceptionTableEntry) (hsplit : tab = pre ++ x :: suf) (hpass : ∀ z ∈ pre, covers z pc = false ∨ (z.catchType ≠ 0 ∧ ∃ nm : String, (Cond.classLink y.cls z.catchType nm).before args s = true ∧ va_Nc E nm s)) (hx : covers x pc = true) (h0 : x.catchType ≠ 0) (hlink : Cond.classLink y.cls x.catchType name ∈ xg_B) (hcast : Cond.castable E name ∈ xg_B)
    (kk : ∀ (q : Nat) (H1 : Heap) (locs1 : List Loc), va_P D vwCl ws' H1 → va_D A ws' → va_S A s.heap H1 locs1 → W p l e R s m args below meth c H1 locs1 (cells + 1) (slots + 6) Q (F0 m x.handlerPc ls [.ref q])) :
    W p l e R s m args below meth c H locs cells slots Q (F0 m pc ls st0) := by
  have hpre := xc_pre C hP hD hS isC hnC hC (.ref b :: As)
  have hrec := va_recv C.2.2.2.2.2.1 hP hci hq0
  rw [hcn] at hrec
  have hr := vx_runV (p := p) (l := l) (e := e) (below := below) (meth := meth) (locs := locs) (cells := cells) (slots := slots) (g := F0 m pc ls st0) (As := As) (rest := rest) (b := b) ⟨C.1, C.2.1, C.2.2.2.1, C.2.2.2.2.1, C.2.2.2.2.2.2.1⟩ hM (cwV As.length C.2.2.2.2.2.2.1 hG rfl rfl rfl ⟨rfl, hd⟩ hRm) ⟨hpre.1, hrec, hpre.2⟩ rfl rfl hl.1 hst (lv_room hw) hdg hf
  obtain ⟨hx9, hb9, hrt, hml, hown, hK, hts, hA, hG9, hlk, hte, -⟩ := C
  intro T hT X
  rcases hr T hT X with ⟨v, st₀, t, T', L, h9, X', hL, e1, e2, hq, st⟩ | ⟨q, st₀, t, T', L, E', ce, h9, X', hL, e1, e2, ⟨hE, hP1, hK1, hD1, hz, hk⟩, hce, hcv, hcl, st⟩
  · exact hq.elim
  · subst hE
    rw [h9] at hz hk
    rw [← e1] at hP1 hz hk hce
    obtain ⟨j1, j2⟩ := xc_join hP hD hA hS isC hC sg hsI hsC hsW hsB hP1 hD1 hk
    have j3 := xc_stay hD hA hS isC hC hL hz hk
    obtain ⟨t2, a1, b1⟩ := vx_catch (ls := ls) (rest := rest) hown pre x suf (hte.trans hsplit) hpass hx h0 (hts _ hlink) (hts _ hcast) hce hcv hcl (kk q T'.heap (locs ++ L) j1 j2 j3) T' rfl X'
    exact ⟨t2, st.trans a1, b1⟩
/-- a call by invokestatic, of the own kind, that returns -/
theorem xc_S {v : Option Value} (C : xC p s m args meth c cc n ret y D K A tab) (hM : xMet l yc bc nc rc fr lo D K As H.size Wc (.inr (v, Wn))) (hG : GoodIn xg_B (wsS y.cls ix yc [Cond.code yc bc nc rc]))
    (hd : yc.cls = y.cls ∧ yc.cls ≠ "java/lang/invoke/MethodHandle" ∧ yc.cls ≠ "java/lang/invoke/VarHandle" ∧ (parseMethodDescriptor yc.desc).map (fun d => d.parameters.length) = some As.length) (hRm : fr + 1 ≤ R.frames ∧ 8 + (nc + 11) + lo ≤ R.locals) (hf : cells ≤ R.cells ∧ slots ≤ R.slots)
    (hl : lv_has ls n lv) (hst : st0 = As.reverse ++ rest) (hw : (rest.map fun v => v.category).sum ≤ 8) (hdg : decode cc pc = .ok (.invokestatic ix, 3))
    (hP : va_P D vwCl ws H) (hD : va_D A ws) (hS : va_S A s.heap H locs)
    (isC : List Nat) (hnC : va_nd isC = true) (hC : isC.map (fun i => ws[i]?) = Wc.map some) (sg : List (Nat × va_W)) (hsI : xidx sg = isC) (hsC : xcat sg = Wn) (hsW : xput ws sg = ws') (hsB : ∀ q ∈ sg, q.1 + q.2.length ≤ ws.length)
    (kk : ∀ (H1 : Heap) (locs1 : List Loc), va_P D vwCl ws' H1 → va_D A ws' → va_S A s.heap H1 locs1 → W p l e R s m args below meth c H1 locs1 cells slots Q (F0 m (pc + 3) ls (v.toList ++ rest))) : W p l e R s m args below meth c H locs cells slots Q (F0 m pc ls st0) := by
  have hpre := xc_pre C hP hD hS isC hnC hC As
  refine xc_ret (a := As.toArray) (va_runS (As := As) (rest := rest) ⟨C.1, C.2.1, C.2.2.2.1, C.2.2.2.2.1, C.2.2.2.2.2.2.1⟩ hM (cwS As.length C.2.2.2.2.2.2.1 hG rfl rfl rfl hd hRm) hpre rfl rfl hl.1 hst (lv_room hw) hdg hf) C.2.2.2.2.2.2.2.1 hP hD hS isC hC sg hsI hsC hsW hsB kk
/-- a call by invokestatic, of the own kind, that throws -/
theorem xc_St {E : String} (C : xC p s m args meth c cc n ret y D K A []) (hM : xMet l yc bc nc rc fr lo D K As H.size Wc (.inl (E, Wn))) (hG : GoodIn xg_B (wsS y.cls ix yc [Cond.code yc bc nc rc]))
    (hd : yc.cls = y.cls ∧ yc.cls ≠ "java/lang/invoke/MethodHandle" ∧ yc.cls ≠ "java/lang/invoke/VarHandle" ∧ (parseMethodDescriptor yc.desc).map (fun d => d.parameters.length) = some As.length) (hRm : fr + 1 ≤ R.frames ∧ 8 + (nc + 11) + lo ≤ R.locals) (hf : 1 ≤ R.cells ∧ 6 ≤ R.slots)
    (hl : lv_has ls n lv) (hst : st0 = As.reverse ++ rest) (hw : (rest.map fun v => v.category).sum ≤ 8) (hdg : decode cc pc = .ok (.invokestatic ix, 3))
    (hP : va_P D vwCl ws H) (hD : va_D A ws) (hS : va_S A s.heap H locs)
    (isC : List Nat) (hnC : va_nd isC = true) (hC : isC.map (fun i => ws[i]?) = Wc.map some) (sg : List (Nat × va_W)) (hsI : xidx sg = isC) (hsC : xcat sg = Wn) (hsW : xput ws sg = ws') (hsB : ∀ q ∈ sg, q.1 + q.2.length ≤ ws.length) :
    W p l e R s m args below meth c H locs 0 0 (xQ below args s D K A (.inl (E, ws'))) (F0 m pc ls st0) := by
  have hpre := xc_pre C hP hD hS isC hnC hC As
  refine xc_thr (vx_runS (As := As) (rest := rest) ⟨C.1, C.2.1, C.2.2.2.1, C.2.2.2.2.1, C.2.2.2.2.2.2.1⟩ hM (cwS As.length C.2.2.2.2.2.2.1 hG rfl rfl rfl hd hRm) hpre rfl rfl hl.1 hst (lv_room hw) hdg (by rw [Nat.zero_add, Nat.zero_add]; exact hf)) C hP hD hS isC hC sg hsI hsC hsW hsB
/-- a call by invokestatic, of another kind, that returns -/
theorem xc_Q {v : Option Value} (C : xC p s m args meth c cc n ret y D K A tab) (hM : xMet l yc bc nc rc fr lo D K As H.size Wc (.inr (v, Wn))) (hG : GoodIn xg_B (va_wsS y.cls ix yc [Cond.code yc bc nc rc]))
    (hd : yc.cls ≠ "java/lang/invoke/MethodHandle" ∧ yc.cls ≠ "java/lang/invoke/VarHandle" ∧ (parseMethodDescriptor yc.desc).map (fun d => d.parameters.length) = some As.length) (hRm : fr + 1 ≤ R.frames ∧ 8 + (nc + 11) + lo ≤ R.locals) (hf : cells ≤ R.cells ∧ slots ≤ R.slots)
    (hl : lv_has ls n lv) (hst : st0 = As.reverse ++ rest) (hw : (rest.map fun v => v.category).sum ≤ 8) (hdg : decode cc pc = .ok (.invokestatic ix, 3))
    (hP : va_P D vwCl ws H) (hD : va_D A ws) (hS : va_S A s.heap H locs)
    (isC : List Nat) (hnC : va_nd isC = true) (hC : isC.map (fun i => ws[i]?) = Wc.map some) (sg : List (Nat × va_W)) (hsI : xidx sg = isC) (hsC : xcat sg = Wn) (hsW : xput ws sg = ws') (hsB : ∀ q ∈ sg, q.1 + q.2.length ≤ ws.length)
    (kk : ∀ (H1 : Heap) (locs1 : List Loc), va_P D vwCl ws' H1 → va_D A ws' → va_S A s.heap H1 locs1 → W p l e R s m args below meth c H1 locs1 cells slots Q (F0 m (pc + 3) ls (v.toList ++ rest))) : W p l e R s m args below meth c H locs cells slots Q (F0 m pc ls st0) := by
  have hpre := xc_pre C hP hD hS isC hnC hC As
  refine xc_ret (a := As.toArray) (va_runS (As := As) (rest := rest) ⟨C.1, C.2.1, C.2.2.2.1, C.2.2.2.2.1, C.2.2.2.2.2.2.1⟩ hM (va_cwS As.length C.2.2.2.2.2.2.1 hG rfl rfl rfl hd hRm) hpre rfl rfl hl.1 hst (lv_room hw) hdg hf) C.2.2.2.2.2.2.2.1 hP hD hS isC hC sg hsI hsC hsW hsB kk
end XCALL

