/-! Constructors: what they make, by contract; their rows. -/
/-- how a constructor ends: the cells that hang from its object, at places a -/
def xQk (D : va_G) (K : Nat → ClassId) (A : Nat → Prop) (Wf : (Nat → Nat) → va_W) (h : Nat) : Array Value → State → Outcome → State → Prop := fun _ st oc t =>
  (oc = .returned none ∧ ∃ a : Nat → Nat, a 0 = h ∧ va_P D vwCl (Wf a) t.heap ∧ va_K D vwCl (xTy K) t ∧ va_D A (Wf a)) ∧ va_F A st t
abbrev xRk (fr lo mc ms : Nat) : Room := { frames := fr, cells := mc, slots := ms, locals := lo }
def xKet (l : Launch) (y : MethodName) (cc : ByteArray) (n fr lo mc ms : Nat) (D : va_G) (K : Nat → ClassId) (c0 : Nat × va_E) (sz : Nat) (Wf : (Nat → Nat) → va_W) : Prop :=
  Met l y [.code y cc n none] (xRk fr lo mc ms) (xPre D K [.ref c0.1] sz [c0]) (xQk D K (va_A [c0] sz) Wf c0.1) mc ms (va_A [c0] sz)
theorem xk_of {l : Launch} {y : MethodName} {cc : ByteArray} {n fr lo mc ms : Nat} {D : va_G} {K : Nat → ClassId} {c0 : Nat × va_E} {sz : Nat} {Wf : (Nat → Nat) → va_W} (hy : plainName y.cls = true) (hn : (lg_sl [.ref c0.1]).length ≤ n)
    (body : ∀ (p : Program) (e : Env) (s : State) (m : MethodId) (args : Array Value) (below : List Frame) (meth : Method) (c : Code) (A : Nat → Prop), xC p s m args meth c cc n none y D K A [] → va_P D vwCl [c0] s.heap → va_D A [c0] → ∀ ls : Array Slot, lv_has ls n [(0, .ref c0.1)] →
      W p l e (xRk fr lo mc ms) s m args below meth c s.heap [] 0 0 (MQ below (xQk D K A Wf c0.1) args s mc ms A) (F0 m 0 ls [])) : xKet l y cc n fr lo mc ms D K c0 sz Wf := by
  refine Met.ofW (cc := cc) (maxL := n) (ret := none) hy rfl (fun p e s m args below meth c s₁ B hml hv => ?_)
  obtain ⟨rfl, hsz, hP, hK, hD0, hG⟩ := hv
  subst hsz
  have hD := hD0.self (sz := s.heap.size)
  have hl := lv_entry [.ref c0.1] (n := n) hn
  have emp : ∀ x ∈ c.exceptionTable.toList, False := by
    intro x hx
    have h1 := B.noHandlers (atoms_spec (ws := [.code y cc n none]) B.pre _ List.mem_cons_self)
    have h2 : c.exceptionTable = #[] := Array.isEmpty_iff.mp h1
    rw [h2] at hx
    cases hx
  rw [lg_entry_eq]
  exact body p e s m _ below meth c (va_A [c0] s.heap.size) ⟨B.exec, B.bytes, B.returns, hml, findClass_of_methodNamed B.named, hK, xg_ts (State.WarmedH.refl s) hG.1, fun q h => Or.inr h, hG, B.notSynchronized, (List.eq_nil_iff_forall_not_mem.mpr (fun x h => emp x h)), (name_of_methodNamed B.named B.method).1⟩ hP hD _ hl
section XK2
variable {p : Program} {l : Launch} {e : Env} {R : Room} {s : State} {m : MethodId} {args : Array Value} {below : List Frame} {meth : Method} {c : Code} {H : Heap} {locs : List Loc} {cells slots : Nat} {Q : State → Prop}
variable {cc : ByteArray} {n pc : Nat} {ret : Option FieldType} {y : MethodName} {D : va_G} {K : Nat → ClassId} {A : Nat → Prop} {ls : Array Slot} {rest st0 : List Value} {ws : va_W} {lv : List (Nat × Value)}
theorem xk_end {mc ms : Nat} {Wf : (Nat → Nat) → va_W} {h : Nat} (C : xC p s m args meth c cc n none y D K A []) (a : Nat → Nat) (ha : a 0 = h) (hP : va_P D vwCl (Wf a) H) (hD : va_D A (Wf a)) (hS : va_S A s.heap H locs) (hc : cells ≤ mc) (hs : slots ≤ ms) (d : decode cc pc = .ok (.return_, 1)) :
    W p l e R s m args below meth c H locs cells slots (MQ below (xQk D K A Wf h) args s mc ms A) (F0 m pc ls []) := by
  have hlocks : meth.locks = false := C.2.2.2.2.2.2.2.2.2.1
  refine W.widen (k := mc) (n := ms) hc hs ?_
  exact W.vret C.1 C.2.1 C.2.2.1 (fun t ht hW => ⟨⟨rfl, a, ha, by rw [ht]; exact hP, va_K.moved hW.alike C.2.2.2.2.2.1, hD⟩, hS.F ht⟩) hS.2.2 d
theorem xk_obj {ix : Nat} {a : Nat} (C : xC p s m args meth c cc n ret y D K A []) (h1 : Cond.methodLink y.cls ix objectInit ∈ xg_B) (h2 : Cond.instanceMethod objectInit ∈ xg_B) (h3 : Cond.code objectInit ⟨#[0xb1]⟩ 1 none ∈ xg_B) (hl : lv_has ls n lv) (hd : decode cc pc = .ok (.invokespecial ix, 3)) (hf : 1 ≤ R.frames) (hlo : (rest.map fun v => v.category).sum + 12 ≤ R.locals)
    (kk : W p l e R s m args below meth c H locs cells slots Q (F0 m (pc + 3) ls rest)) : W p l e R s m args below meth c H locs cells slots Q (F0 m pc ls (.ref a :: rest)) := by
  refine W.objInit C.1 C.2.1 C.2.2.2.2.1 (C.2.2.2.2.2.2.1 _ h1) (C.2.2.2.2.2.2.1 _ h2) (C.2.2.2.2.2.2.1 _ h3) (g := F0 m pc ls (.ref a :: rest)) rfl (by rw [C.2.2.2.1]; exact hl.1) rfl hd hf (by show 2 * 0 + _ + 12 ≤ _; omega) ?_
  exact kk
theorem xn_cls {k : Nat} {ty : FieldType} {cA cB : ClassId} (hne : ∀ C, ty ≠ .object C) (h : va_RA s cA ty) (h2 : va_RA s cB ty) : cA = cB := by
  cases ty with
  | object C => exact absurd rfl (hne C)
  | _ => exact Option.some.inj (h.symm.trans h2)
theorem xn_I {N' : Nat} {v : Int32} (C : xC p s m args meth c cc n ret y D K A []) (harr : Cond.arrayClass .int ∈ xg_B) (hP : va_P D vwCl ws H) (hD : va_D A ws) (hS : va_S A s.heap H locs) (hn : ¬ v < 0) (hN : v.toNatClampNeg = N') (hby : N' * componentBytes .int ≤ 536870912) (hcells : cells + 1 ≤ R.cells) (hslots : slots + N' ≤ R.slots) (hdg : decode cc pc = .ok (.newarray .int, 2))
    (kk : ∀ (q : Nat) (H1 : Heap), va_P D vwCl (ws ++ [(q, .inl (K 0, N', .inl (fun _ => 0)))]) H1 → va_D A (ws ++ [(q, .inl (K 0, N', .inl (fun _ => 0)))]) → va_S A s.heap H1 locs → W p l e R s m args below meth c H1 locs (cells + 1) (slots + N') Q (F0 m (pc + 2) ls (.ref q :: rest))) : W p l e R s m args below meth c H locs cells slots Q (F0 m pc ls (.int v :: rest)) := by
  obtain ⟨hx, hb, hr, hml, hown, hK, hts, hA, hG, hlk, hte, hnm⟩ := C
  refine va_newa (atype := .int) (ty := .int) hx hb (hts _ harr) rfl hK hP hD hS hA (a0 := (N', .inl (fun _ => 0))) (fun _ => rfl) hn hN hby hcells hslots hdg (fun q cA H1 hK1 hP1 hD1 hS1 => ?_)
  have hc : cA = K 0 := xn_cls (s := s) (k := 0) (ty := .int) (fun _ h => by cases h) (hK1.2 4 (cA, .int) rfl).2 (hK.2 0 (K 0, .int) rfl).2
  subst hc
  exact kk q H1 hP1 hD1 hS1
theorem xn_Z {N' : Nat} {v : Int32} (C : xC p s m args meth c cc n ret y D K A []) (harr : Cond.arrayClass .boolean ∈ xg_B) (hP : va_P D vwCl ws H) (hD : va_D A ws) (hS : va_S A s.heap H locs) (hn : ¬ v < 0) (hN : v.toNatClampNeg = N') (hby : N' * componentBytes .boolean ≤ 536870912) (hcells : cells + 1 ≤ R.cells) (hslots : slots + N' ≤ R.slots) (hdg : decode cc pc = .ok (.newarray .boolean, 2))
    (kk : ∀ (q : Nat) (H1 : Heap), va_P D vwCl (ws ++ [(q, .inl (K 1, N', .inl (fun _ => 0)))]) H1 → va_D A (ws ++ [(q, .inl (K 1, N', .inl (fun _ => 0)))]) → va_S A s.heap H1 locs → W p l e R s m args below meth c H1 locs (cells + 1) (slots + N') Q (F0 m (pc + 2) ls (.ref q :: rest))) : W p l e R s m args below meth c H locs cells slots Q (F0 m pc ls (.int v :: rest)) := by
  obtain ⟨hx, hb, hr, hml, hown, hK, hts, hA, hG, hlk, hte, hnm⟩ := C
  refine va_newa (atype := .boolean) (ty := .boolean) hx hb (hts _ harr) rfl hK hP hD hS hA (a0 := (N', .inl (fun _ => 0))) (fun _ => rfl) hn hN hby hcells hslots hdg (fun q cA H1 hK1 hP1 hD1 hS1 => ?_)
  have hc : cA = K 1 := xn_cls (s := s) (k := 0) (ty := .boolean) (fun _ h => by cases h) (hK1.2 4 (cA, .boolean) rfl).2 (hK.2 1 (K 1, .boolean) rfl).2
  subst hc
  exact kk q H1 hP1 hD1 hS1
theorem xn_Q {N' ix : Nat} {v : Int32} (C : xC p s m args meth c cc n ret y D K A []) (hlk9 : Cond.classLink y.cls ix RX1 ∈ xg_B) (hao : va_AO RX1 s) (hP : va_P D vwCl ws H) (hD : va_D A ws) (hS : va_S A s.heap H locs) (hn : ¬ v < 0) (hN : v.toNatClampNeg = N') (hby : N' * 4 ≤ 536870912) (hcells : cells + 1 ≤ R.cells) (hslots : slots + N' ≤ R.slots) (hdg : decode cc pc = .ok (.anewarray ix, 3))
    (kk : ∀ (q : Nat) (H1 : Heap), va_P D vwCl (ws ++ [(q, .inl (K 2, N', .inr (.inr (.inr (.inr (fun _ => none))))))]) H1 → va_D A (ws ++ [(q, .inl (K 2, N', .inr (.inr (.inr (.inr (fun _ => none))))))]) → va_S A s.heap H1 locs → W p l e R s m args below meth c H1 locs (cells + 1) (slots + N') Q (F0 m (pc + 3) ls (.ref q :: rest))) : W p l e R s m args below meth c H locs cells slots Q (F0 m pc ls (.int v :: rest)) := by
  obtain ⟨hx, hb, hr, hml, hown, hK, hts, hA, hG, hlk, hte, hnm⟩ := C
  refine va_newq (C := RX1) hx hb hown (hts _ hlk9) hao hK hP hD hS hA hn hN hby hcells hslots hdg (fun q cA H1 hK1 hP1 hD1 hS1 => ?_)
  have hc : cA = K 2 := by
    obtain ⟨_, _, -, -, -, h1⟩ := (hK1.2 4 (cA, .object RX1) rfl).2
    obtain ⟨_, _, -, -, -, h2⟩ := (hK.2 2 (K 2, .object RX1) rfl).2
    exact Option.some.inj (h1.symm.trans h2)
  subst hc
  exact kk q H1 hP1 hD1 hS1
/-- a row of references, at the same places the same -/
theorem xn_cong {q N' pos : Nat} {cA : ClassId} {f g : Nat → Option Nat} (hP : va_P D vwCl ws H) (hD : va_D A ws) (he : ws[pos]? = some (q, .inl (cA, N', .inr (.inr (.inr (.inr f)))))) (hfg : ∀ j, j < N' → f j = g j) :
    va_P D vwCl (ws.set pos (q, .inl (cA, N', .inr (.inr (.inr (.inr g)))))) H ∧ va_D A (ws.set pos (q, .inl (cA, N', .inr (.inr (.inr (.inr g)))))) := by
  refine ⟨hP.set hD he ?_ (fun _ _ => rfl), hD.set he⟩
  have h1 := hP pos _ he
  show H[q]? = some (vp_cell cA (N', .inr (.inr (.inr (.inr g)))))
  have h2 : H[q]? = some (vp_cell cA (N', .inr (.inr (.inr (.inr f))))) := h1
  rw [h2, vp_cell_q, vp_cell_q]
  have h3 : (fun j : Fin N' => va_rf (f j.val)) = fun j : Fin N' => va_rf (g j.val) := funext fun j => by rw [hfg j.val j.isLt]
  show some ({ cls := cA, slots := Array.ofFn (n := N') fun j => va_rf (f j.val), vm := .none } : Cell) = some { cls := cA, slots := Array.ofFn (n := N') fun j => va_rf (g j.val), vm := .none }
  rw [h3]
/-- a constructor's call: its object is the last cell; what it makes comes behind the rest -/
theorem xk_ret {mc ms : Nat} {a9 : Array Value} {c0 : Nat × va_E} {Wf : (Nat → Nat) → va_W} (hr : va_Run p l e R s m args below meth c H locs cells slots mc ms (F0 m pc ls st0) rest (xQk D K (va_A [c0] H.size) Wf c0.1 a9) (va_A [c0] H.size)) (hA : ∀ q, s.heap.size ≤ q → A q)
    (hP : va_P D vwCl (ws ++ [c0]) H) (hD : va_D A (ws ++ [c0])) (hS : va_S A s.heap H locs)
    (kk : ∀ (a : Nat → Nat) (H1 : Heap) (locs1 : List Loc), a 0 = c0.1 → va_P D vwCl (ws ++ Wf a) H1 → va_D A (ws ++ Wf a) → va_S A s.heap H1 locs1 → W p l e R s m args below meth c H1 locs1 (cells + mc) (slots + ms) Q (F0 m (pc + 3) ls rest)) : W p l e R s m args below meth c H locs cells slots Q (F0 m pc ls st0) := by
  have hC : [ws.length].map (fun i => (ws ++ [c0])[i]?) = [c0].map some := by simp
  have hF := va_free hD hS hA [ws.length] hC
  have left : ∀ (k : Nat) (q : Nat × va_E), ws[k]? = some q → (ws ++ [c0])[k]? = some q := fun k q h => by rw [List.getElem?_append_left (List.getElem?_eq_some_iff.mp h).1]; exact h
  have last : (ws ++ [c0])[ws.length]? = some c0 := by simp
  have apart : ∀ (k : Nat) (q : Nat × va_E), ws[k]? = some q → q.1 < H.size ∧ ¬ va_A [c0] H.size q.1 := by
    intro k q hq
    have hl := (hP k q (left k q hq)).lt
    refine ⟨hl, fun h => ?_⟩
    rcases h with ⟨j, e9, h⟩ | h
    · have hj : j < 1 := (List.getElem?_eq_some_iff.mp h).1
      rw [show j = 0 by omega] at h
      have h0 : c0 = (q.1, e9) := Option.some.inj h
      have h9 := hD.1 k ws.length q c0 (left k q hq) last (by rw [h0])
      exact absurd (List.getElem?_eq_some_iff.mp hq).1 (by omega)
    · exact absurd hl (Nat.not_lt.mpr h)
  intro T hT X
  obtain ⟨v', st₀, t, T', L, h0, X', hL, e1, e2, ⟨⟨hv, a, ha, hP1, hK1, hD1⟩, hz, hk⟩, st⟩ := hr T hT X
  cases hv
  rw [h0] at hz hk
  rw [← e1] at hP1 hz hk
  have j1 : va_P D vwCl (ws ++ Wf a) T'.heap := va_P.app (fun k q hq => (hP k q (left k q hq)).kept (hk q.1 (apart k q hq).1 (apart k q hq).2)) hP1
  have j2 : va_D A (ws ++ Wf a) := by
    refine va_D.app ⟨fun i j p q hi hj hpq => hD.1 i j p q (left i p hi) (left j q hj) hpq, fun k q hq => hD.2 k q (left k q hq)⟩ (hD1.weaken (fun k q _ h => hF q.1 h)) (fun i j x y hx hy hxy => ?_)
    exact (apart i x hx).2 (by rw [hxy]; exact hD1.2 j y hy)
  obtain ⟨t2, a1, b1⟩ := kk a T'.heap (locs ++ L) ha j1 j2 (xc_stay hD hA hS [ws.length] hC hL hz hk) T' rfl X'
  exact ⟨t2, st t2 a1, b1⟩
theorem xk_pre {c0 : Nat × va_E} (C : xC p s m args meth c cc n ret y D K A []) (hP : va_P D vwCl (ws ++ [c0]) H) (hD : va_D A (ws ++ [c0])) (hS : va_S A s.heap H locs) : PreS s H (xPre D K [.ref c0.1] H.size [c0]) [.ref c0.1] :=
  xc_pre C hP hD hS [ws.length] rfl (by simp) _
variable {yc : MethodName} {bc : ByteArray} {nc fr lo ix : Nat}
/-- of a nest mate: private -/
theorem xk_IN {mc ms : Nat} {c0 : Nat × va_E} {Wf : (Nat → Nat) → va_W} (C : xC p s m args meth c cc n ret y D K A []) (hM : xKet l yc bc nc fr lo mc ms D K c0 H.size Wf) (h1 : Cond.methodLinkNest y.cls ix yc "ContextUnfolder" ∈ xg_B) (h2 : Cond.instanceMethod yc ∈ xg_B) (h4 : Cond.initialized yc.cls ∈ xg_B) (h5 : Cond.code yc bc nc none ∈ xg_B) (hg : goodWord (Cond.code yc bc nc none) = true) (hy1 : yc.name = "<init>")
    (hd : yc.cls ≠ "java/lang/invoke/MethodHandle" ∧ yc.cls ≠ "java/lang/invoke/VarHandle" ∧ (parseMethodDescriptor yc.desc).map (fun d => d.parameters.length) = some 0) (hRm : fr + 1 ≤ R.frames ∧ 8 + (nc + 11) + lo ≤ R.locals) (hf : cells + mc ≤ R.cells ∧ slots + ms ≤ R.slots)
    (hl : lv_has ls n lv) (hw : (rest.map fun v => v.category).sum ≤ 8) (hdg : decode cc pc = .ok (.invokespecial ix, 3)) (hP : va_P D vwCl (ws ++ [c0]) H) (hD : va_D A (ws ++ [c0])) (hS : va_S A s.heap H locs)
    (kk : ∀ (a : Nat → Nat) (H1 : Heap) (locs1 : List Loc), a 0 = c0.1 → va_P D vwCl (ws ++ Wf a) H1 → va_D A (ws ++ Wf a) → va_S A s.heap H1 locs1 → W p l e R s m args below meth c H1 locs1 (cells + mc) (slots + ms) Q (F0 m (pc + 3) ls rest)) : W p l e R s m args below meth c H locs cells slots Q (F0 m pc ls (.ref c0.1 :: rest)) := by
  have hts := C.2.2.2.2.2.2.1
  have hG : GoodIn xg_B [Cond.code yc bc nc none] := fun w hw => by
    rcases List.mem_cons.mp hw with rfl | h
    · exact ⟨h5, good_of_word hg⟩
    · exact absurd h List.not_mem_nil
  refine xk_ret (a9 := ([.ref c0.1] : List Value).toArray) (va_runIN (As := []) (rest := rest) (b := c0.1) ⟨C.1, C.2.1, C.2.2.2.1, C.2.2.2.2.1, hts⟩ hM ⟨va_cnB 0 hts hG rfl rfl rfl (va_Nw.of rfl (hts _ h1)) (hts _ h4) hd hRm, hy1, hts _ h2⟩ (xk_pre C hP hD hS) rfl rfl hl.1 rfl (lv_room hw) hdg hf) C.2.2.2.2.2.2.2.1 hP hD hS kk
end XK2

abbrev z4 : S4 := ((fun _ => 0), (0 : Int32), (0 : Int32))
abbrev z3 : S3 := ((fun _ => 0), (fun _ => 0), (0 : Int32))
abbrev z1 : S1 := ((fun _ => 0), (fun _ => 0), (fun _ => 0))
abbrev z2 : S2 := (z1, z1, z1, z1, z1, (fun _ => 0), (fun _ => 0), (fun _ => 0), (0 : Int32), (0 : Int32), (0 : Int32), (0 : Int32))
abbrev z0 : S0 := (z2, z1, z1, (0 : Int32))
abbrev z5 : S5 := (z4, z0)
abbrev z6 : S6 := ((0 : Int32), (0 : Int32), (fun _ => 0), (0 : Int32), (0 : Int32), (0 : Int32), (fun _ => 0), (0 : Int32), (fun _ => 0), (fun _ => 0), (fun _ => 0), (fun _ => 0), (fun _ => 0), (fun _ => 0), (0 : Int32), (0 : Int32), (0 : Int32), (0 : Int32), (fun _ => 0), (fun _ => 0), (fun _ => 0))
