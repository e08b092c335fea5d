abbrev oX6_baseOf (aM : Nat → Nat) (K : Nat → ClassId) (q : Int32 × (S6)) : xO := .inr ((some (.int q.1)), w6 aM K q.2)
def fX6_baseOf (M : S6) (p1 : Int32) (p2 : Int32) : Option (Int32 × (S6)) := (if p2 = 0 then some ((((1 : Int32) <<< (p1 &&& 31)) - (1 : Int32)), M) else some ((((1 : Int32) <<< (p1 &&& 31)) + (1 : Int32)), M))
set_option maxHeartbeats 4000000 in
set_option maxRecDepth 100000 in
theorem mX6_baseOf (l : Launch) (D : va_G) (K : Nat → ClassId) (aM : Nat → Nat) (sz : Nat) (M : S6) (p1 : Int32) (p2 : Int32) (r : Int32 × (S6)) (h : fX6_baseOf M p1 p2 = some r) : xMet l yX6_baseOf cX6_baseOf 3 (some .int) 0 0 D K [.ref (aM 0), .int p1, .int p2] sz (w6 aM K M) (oX6_baseOf aM K r) := by
  refine xm_of _ (by decide +kernel) (Nat.le_of_ble_eq_true rfl) (fun p e s m args below meth c A C hP hD ls hl => ?_)
  have hl : lv_has ls 3 [(0, .ref (aM 0)), (1, .int p1), (2, .int p2)] := hl
  have hS : va_S A s.heap s.heap [] := va_S.rf
  obtain ⟨hx, hb, hr, hml, hown, hK, hts, hA, hG, hlk, hte, hnm⟩ := id C
  replace h : (if p2 = 0 then some ((((1 : Int32) <<< (p1 &&& 31)) - (1 : Int32)), M) else some ((((1 : Int32) <<< (p1 &&& 31)) + (1 : Int32)), M)) = some r := h
  refine lv_iload_n hx hb dX6_baseOf_0 rfl (lv_at hl 2 rfl) ?_
  refine lv_if_ne (tgt := 12) hx hb dX6_baseOf_1 (by decide) (fun c9 => ?_) (fun c9 => ?_)
  · replace h := xi_f c9 h
    refine lv_iconst (v := (1 : Int32)) hx hb dX6_baseOf_12 (by decide) ?_
    refine lv_iload_n hx hb dX6_baseOf_13 rfl (lv_at hl 1 rfl) ?_
    refine lv_ishl hx hb dX6_baseOf_14 ?_
    refine lv_iconst (v := (1 : Int32)) hx hb dX6_baseOf_15 (by decide) ?_
    refine lv_iadd hx hb dX6_baseOf_16 ?_
    obtain rfl := Option.some.inj h
    exact xe_i C hP hD hS dX6_baseOf_17
  · replace h := xi_t c9 h
    refine lv_iconst (v := (1 : Int32)) hx hb dX6_baseOf_4 (by decide) ?_
    refine lv_iload_n hx hb dX6_baseOf_5 rfl (lv_at hl 1 rfl) ?_
    refine lv_ishl hx hb dX6_baseOf_6 ?_
    refine lv_iconst (v := (1 : Int32)) hx hb dX6_baseOf_7 (by decide) ?_
    refine lv_isub hx hb dX6_baseOf_8 ?_
    refine lv_goto (tgt := 17) hx hb dX6_baseOf_9 (by decide) ?_
    obtain rfl := Option.some.inj h
    exact xe_i C hP hD hS dX6_baseOf_17
abbrev oX6_wordLetter (aM : Nat → Nat) (K : Nat → ClassId) (q : Int32 × (S6)) : xO := .inr ((some (.int q.1)), w6 aM K q.2)
def fX6_wordLetter (M : S6) (p1 : Int32) (p2 : Int32) (p3 : Int32) : Option (Int32 × (S6)) := some (((((((7 : Int32) * p1) + ((5 : Int32) * p2)) + (((3 : Int32) * p3) * p3)) + (p3 * p1)) - (((((7 : Int32) * p1) + ((5 : Int32) * p2)) + (((3 : Int32) * p3) * p3)) + (p3 * p1)) / (32 : Int32) * (32 : Int32)), M)
set_option maxHeartbeats 4000000 in
set_option maxRecDepth 100000 in
theorem mX6_wordLetter (l : Launch) (D : va_G) (K : Nat → ClassId) (aM : Nat → Nat) (sz : Nat) (M : S6) (p1 : Int32) (p2 : Int32) (p3 : Int32) (r : Int32 × (S6)) (h : fX6_wordLetter M p1 p2 p3 = some r) : xMet l yX6_wordLetter cX6_wordLetter 4 (some .int) 0 0 D K [.ref (aM 0), .int p1, .int p2, .int p3] sz (w6 aM K M) (oX6_wordLetter aM K r) := by
  refine xm_of _ (by decide +kernel) (Nat.le_of_ble_eq_true rfl) (fun p e s m args below meth c A C hP hD ls hl => ?_)
  have hl : lv_has ls 4 [(0, .ref (aM 0)), (1, .int p1), (2, .int p2), (3, .int p3)] := hl
  have hS : va_S A s.heap s.heap [] := va_S.rf
  obtain ⟨hx, hb, hr, hml, hown, hK, hts, hA, hG, hlk, hte, hnm⟩ := id C
  replace h : some (((((((7 : Int32) * p1) + ((5 : Int32) * p2)) + (((3 : Int32) * p3) * p3)) + (p3 * p1)) - (((((7 : Int32) * p1) + ((5 : Int32) * p2)) + (((3 : Int32) * p3) * p3)) + (p3 * p1)) / (32 : Int32) * (32 : Int32)), M) = some r := h
  refine lv_bipush (v := (7 : Int32)) hx hb dX6_wordLetter_0 (by decide) ?_
  refine lv_iload_n hx hb dX6_wordLetter_2 rfl (lv_at hl 1 rfl) ?_
  refine lv_imul hx hb dX6_wordLetter_3 ?_
  refine lv_iconst (v := (5 : Int32)) hx hb dX6_wordLetter_4 (by decide) ?_
  refine lv_iload_n hx hb dX6_wordLetter_5 rfl (lv_at hl 2 rfl) ?_
  refine lv_imul hx hb dX6_wordLetter_6 ?_
  refine lv_iadd hx hb dX6_wordLetter_7 ?_
  refine lv_iconst (v := (3 : Int32)) hx hb dX6_wordLetter_8 (by decide) ?_
  refine lv_iload_n hx hb dX6_wordLetter_9 rfl (lv_at hl 3 rfl) ?_
  refine lv_imul hx hb dX6_wordLetter_10 ?_
  refine lv_iload_n hx hb dX6_wordLetter_11 rfl (lv_at hl 3 rfl) ?_
  refine lv_imul hx hb dX6_wordLetter_12 ?_
  refine lv_iadd hx hb dX6_wordLetter_13 ?_
  refine lv_iload_n hx hb dX6_wordLetter_14 rfl (lv_at hl 3 rfl) ?_
  refine lv_iload_n hx hb dX6_wordLetter_15 rfl (lv_at hl 1 rfl) ?_
  refine lv_imul hx hb dX6_wordLetter_16 ?_
  refine lv_iadd hx hb dX6_wordLetter_17 ?_
  refine lv_bipush (v := (32 : Int32)) hx hb dX6_wordLetter_18 (by decide) ?_
  refine lv_irem hx hb dX6_wordLetter_20 (by decide) ?_
  obtain rfl := Option.some.inj h
  exact xe_i C hP hD hS dX6_wordLetter_21
abbrev oX6_dictionary (aM : Nat → Nat) (K : Nat → ClassId) (q : Int32 × (S6)) : xO := .inr ((some (.int q.1)), w6 aM K q.2)
def fX6_dictionary_183 (M : S6) (x8 : Int32) (t1 : Int32) (t2 : Int32) (t3 : Int32) : Option (Int32 × (S6)) := (if t1 < 0 ∨ 9 ≤ (t1).toNatClampNeg then none else some (x8, (M.1, M.2.1, M.2.2.1, M.2.2.2.1, M.2.2.2.2.1, M.2.2.2.2.2.1, M.2.2.2.2.2.2.1, M.2.2.2.2.2.2.2.1, M.2.2.2.2.2.2.2.2.1, M.2.2.2.2.2.2.2.2.2.1, (upd M.2.2.2.2.2.2.2.2.2.2.1 (t1).toNatClampNeg (t2 + t3)), M.2.2.2.2.2.2.2.2.2.2.2.1, M.2.2.2.2.2.2.2.2.2.2.2.2.1, M.2.2.2.2.2.2.2.2.2.2.2.2.2.1, M.2.2.2.2.2.2.2.2.2.2.2.2.2.2.1, M.2.2.2.2.2.2.2.2.2.2.2.2.2.2.2.1, M.2.2.2.2.2.2.2.2.2.2.2.2.2.2.2.2.1, M.2.2.2.2.2.2.2.2.2.2.2.2.2.2.2.2.2.1, M.2.2.2.2.2.2.2.2.2.2.2.2.2.2.2.2.2.2.1, M.2.2.2.2.2.2.2.2.2.2.2.2.2.2.2.2.2.2.2.1, M.2.2.2.2.2.2.2.2.2.2.2.2.2.2.2.2.2.2.2.2)))
def fX6_dictionary_163 (M : S6) (x8 : Int32) : Option (Int32 × (S6)) := (if (3 : Int32) < 0 ∨ 9 ≤ ((3 : Int32)).toNatClampNeg then none else (if M.2.2.2.2.1 = 0 then fX6_dictionary_183 M x8 (3 : Int32) (M.2.2.2.2.2.2.2.2.2.2.1 ((3 : Int32)).toNatClampNeg) x8 else fX6_dictionary_183 M x8 (3 : Int32) (M.2.2.2.2.2.2.2.2.2.2.1 ((3 : Int32)).toNatClampNeg) (0 : Int32)))
def fX6_dictionary_152 (M : S6) (x4 : Int32) (x8 : Int32) : Option (Int32 × (S6)) := (if x4 = (4 : Int32) then xbnd0 (fX6_add M (0 : Int32)) (fun v_5 s_6 => fX6_dictionary_163 s_6 x8) else fX6_dictionary_163 M x8)
def fX6_dictionary_142 (rec102 : S6 → Int32 → Int32 → Int32 → Int32 → Int32 → Int32 → Option (Int32 × (S6))) (M : S6) (x2 : Int32) (x4 : Int32) (x5 : Int32) (x7 : Int32) (x8 : Int32) (x9 : Int32) (t1 : Int32) (t2 : Int32) : Option (Int32 × (S6)) := xbnd0 (fX6_add M (t1 ^^^ t2)) (fun v_3 s_4 => rec102 s_4 x2 x4 x5 x7 x8 (x9 + (1 : Int32)))
def fX6_dictionary_141 (rec102 : S6 → Int32 → Int32 → Int32 → Int32 → Int32 → Int32 → Option (Int32 × (S6))) (M : S6) (x2 : Int32) (x4 : Int32) (x5 : Int32) (x7 : Int32) (x8 : Int32) (x9 : Int32) (t1 : Int32) : Option (Int32 × (S6)) := fX6_dictionary_142 rec102 M x2 x4 x5 x7 x8 x9 t1 (0 : Int32)
def fX6_dictionary_102 : Nat → S6 → Int32 → Int32 → Int32 → Int32 → Int32 → Int32 → Option (Int32 × (S6))
  | 0 => fun _ _ _ _ _ _ _ => none
  | fu + 1 => fun M x2 x4 x5 x7 x8 x9 => (if x7 ≤ x9 then fX6_dictionary_152 M x4 x8 else (if M.2.2.2.2.1 = 0 then xbnd0 (fX6_wordLetter M x5 x2 x9) (fun v_1 s_2 => (if x4 = (1 : Int32) then (if x9 = 0 then fX6_dictionary_142 (fX6_dictionary_102 fu) s_2 x2 x4 x5 x7 x8 x9 v_1 (1 : Int32) else fX6_dictionary_141 (fX6_dictionary_102 fu) s_2 x2 x4 x5 x7 x8 x9 v_1) else fX6_dictionary_141 (fX6_dictionary_102 fu) s_2 x2 x4 x5 x7 x8 x9 v_1)) else fX6_dictionary_152 M x4 x8))
def fX6_dictionary_95 (M : S6) (x2 : Int32) (x4 : Int32) (x5 : Int32) (x6 : Int32) (x7 : Int32) (x8 : Int32) (t1 : Int32) : Option (Int32 × (S6)) := (if t1 = 0 ∨ t1 = 1 then fX6_dictionary_102 xF (M.1, M.2.1, M.2.2.1, M.2.2.2.1, t1, M.2.2.2.2.2.1, M.2.2.2.2.2.2.1, M.2.2.2.2.2.2.2.1, M.2.2.2.2.2.2.2.2.1, M.2.2.2.2.2.2.2.2.2.1, M.2.2.2.2.2.2.2.2.2.2.1, M.2.2.2.2.2.2.2.2.2.2.2.1, M.2.2.2.2.2.2.2.2.2.2.2.2.1, M.2.2.2.2.2.2.2.2.2.2.2.2.2.1, M.2.2.2.2.2.2.2.2.2.2.2.2.2.2.1, M.2.2.2.2.2.2.2.2.2.2.2.2.2.2.2.1, M.2.2.2.2.2.2.2.2.2.2.2.2.2.2.2.2.1, M.2.2.2.2.2.2.2.2.2.2.2.2.2.2.2.2.2.1, M.2.2.2.2.2.2.2.2.2.2.2.2.2.2.2.2.2.2.1, M.2.2.2.2.2.2.2.2.2.2.2.2.2.2.2.2.2.2.2.1, M.2.2.2.2.2.2.2.2.2.2.2.2.2.2.2.2.2.2.2.2) x2 x4 x5 x7 x8 x6 else none)
def fX6_dictionary_56 (M : S6) (x2 : Int32) (x3 : Int32) (x4 : Int32) (x5 : Int32) (x6 : Int32) (x7 : Int32) (t0 : Int32) (t1 : Int32) : Option (Int32 × (S6)) := (if M.2.2.2.2.1 = 0 then (if x2 < (3 : Int32) then fX6_dictionary_95 M x2 x4 x5 x6 x7 (t0 + t1) (1 : Int32) else (if (6 : Int32) < x2 then fX6_dictionary_95 M x2 x4 x5 x6 x7 (t0 + t1) (1 : Int32) else (if (4 : Int32) < x4 then fX6_dictionary_95 M x2 x4 x5 x6 x7 (t0 + t1) (1 : Int32) else (if (t0 + t1) ≤ x3 then fX6_dictionary_95 M x2 x4 x5 x6 x7 (t0 + t1) (0 : Int32) else fX6_dictionary_95 M x2 x4 x5 x6 x7 (t0 + t1) (1 : Int32))))) else fX6_dictionary_95 M x2 x4 x5 x6 x7 (t0 + t1) (1 : Int32))
def fX6_dictionary_38 (M : S6) (x2 : Int32) (x3 : Int32) (x4 : Int32) (x5 : Int32) (x6 : Int32) (t0 : Int32) : Option (Int32 × (S6)) := (if x4 = (4 : Int32) then fX6_dictionary_56 M x2 x3 x4 x5 x6 t0 (t0 - x6) (1 : Int32) else fX6_dictionary_56 M x2 x3 x4 x5 x6 t0 (t0 - x6) (0 : Int32))
def fX6_dictionary_23 (M : S6) (x2 : Int32) (x3 : Int32) (x4 : Int32) (x5 : Int32) (t0 : Int32) : Option (Int32 × (S6)) := (if x4 = (3 : Int32) then fX6_dictionary_38 M x2 x3 x4 x5 t0 (x2 - (1 : Int32)) else fX6_dictionary_38 M x2 x3 x4 x5 t0 x2)
def fX6_dictionary (M : S6) (p1 : Int32) (p2 : Int32) (p3 : Int32) : Option (Int32 × (S6)) := (if (p1 / (8 : Int32)) = (2 : Int32) then fX6_dictionary_23 M p2 p3 (p1 / (8 : Int32)) (p1 - p1 / (8 : Int32) * (8 : Int32)) (1 : Int32) else fX6_dictionary_23 M p2 p3 (p1 / (8 : Int32)) (p1 - p1 / (8 : Int32) * (8 : Int32)) (0 : Int32))
set_option maxHeartbeats 4000000 in
set_option maxRecDepth 100000 in
theorem kX6_dictionary_183 {p : Program} {l : Launch} {e : Env} {s : State} {m : MethodId} {args : Array Value} {below : List Frame} {meth : Method} {c : Code} {D : va_G} {K : Nat → ClassId} {A : Nat → Prop} {aM : Nat → Nat} (C : xC p s m args meth c cX6_dictionary 10 (some .int) yX6_dictionary D K A []) : ∀ (M : S6) (x8 : Int32) (t1 : Int32) (t2 : Int32) (t3 : Int32) (r : Int32 × (S6)), fX6_dictionary_183  M x8 t1 t2 t3 = some r → ∀ (H : Heap) (locs : List Loc) (ls : Array Slot), va_P D vwCl (w6 aM K M) H → va_D A (w6 aM K M) → va_S A s.heap H locs → lv_has ls 10 [(8, .int x8)] → W p l e (xR 1 23 (oX6_dictionary aM K r)) s m args below meth c H locs 0 0 (xQ below args s D K A (oX6_dictionary aM K r)) (F0 m 183 ls [.int t3, .int t2, .int t1, .ref (aM 5)]) := by
  obtain ⟨hx, hb, hr, hml, hown, hK, hts, hA, hG, hlk, hte, hnm⟩ := id C
  intro M x8 t1 t2 t3 r h H locs ls hP hD hS hl
  replace h : (if t1 < 0 ∨ 9 ≤ (t1).toNatClampNeg then none else some (x8, (M.1, M.2.1, M.2.2.1, M.2.2.2.1, M.2.2.2.2.1, M.2.2.2.2.2.1, M.2.2.2.2.2.2.1, M.2.2.2.2.2.2.2.1, M.2.2.2.2.2.2.2.2.1, M.2.2.2.2.2.2.2.2.2.1, (upd M.2.2.2.2.2.2.2.2.2.2.1 (t1).toNatClampNeg (t2 + t3)), M.2.2.2.2.2.2.2.2.2.2.2.1, M.2.2.2.2.2.2.2.2.2.2.2.2.1, M.2.2.2.2.2.2.2.2.2.2.2.2.2.1, M.2.2.2.2.2.2.2.2.2.2.2.2.2.2.1, M.2.2.2.2.2.2.2.2.2.2.2.2.2.2.2.1, M.2.2.2.2.2.2.2.2.2.2.2.2.2.2.2.2.1, M.2.2.2.2.2.2.2.2.2.2.2.2.2.2.2.2.2.1, M.2.2.2.2.2.2.2.2.2.2.2.2.2.2.2.2.2.2.1, M.2.2.2.2.2.2.2.2.2.2.2.2.2.2.2.2.2.2.2.1, M.2.2.2.2.2.2.2.2.2.2.2.2.2.2.2.2.2.2.2.2))) = some r := h
  refine lv_iadd hx hb dX6_dictionary_183 ?_
  obtain ⟨hi9, h⟩ := xi_g h
  refine va_iast hx hb hK hP hD hS 5 0 rfl rfl hi9 dX6_dictionary_184 (fun H locs hP hD hS => ?_)
  have hP : va_P D vwCl (w6 aM K (M.1, M.2.1, M.2.2.1, M.2.2.2.1, M.2.2.2.2.1, M.2.2.2.2.2.1, M.2.2.2.2.2.2.1, M.2.2.2.2.2.2.2.1, M.2.2.2.2.2.2.2.2.1, M.2.2.2.2.2.2.2.2.2.1, (upd M.2.2.2.2.2.2.2.2.2.2.1 (t1).toNatClampNeg (t2 + t3)), M.2.2.2.2.2.2.2.2.2.2.2.1, M.2.2.2.2.2.2.2.2.2.2.2.2.1, M.2.2.2.2.2.2.2.2.2.2.2.2.2.1, M.2.2.2.2.2.2.2.2.2.2.2.2.2.2.1, M.2.2.2.2.2.2.2.2.2.2.2.2.2.2.2.1, M.2.2.2.2.2.2.2.2.2.2.2.2.2.2.2.2.1, M.2.2.2.2.2.2.2.2.2.2.2.2.2.2.2.2.2.1, M.2.2.2.2.2.2.2.2.2.2.2.2.2.2.2.2.2.2.1, M.2.2.2.2.2.2.2.2.2.2.2.2.2.2.2.2.2.2.2.1, M.2.2.2.2.2.2.2.2.2.2.2.2.2.2.2.2.2.2.2.2)) H := hP
  have hD : va_D A (w6 aM K (M.1, M.2.1, M.2.2.1, M.2.2.2.1, M.2.2.2.2.1, M.2.2.2.2.2.1, M.2.2.2.2.2.2.1, M.2.2.2.2.2.2.2.1, M.2.2.2.2.2.2.2.2.1, M.2.2.2.2.2.2.2.2.2.1, (upd M.2.2.2.2.2.2.2.2.2.2.1 (t1).toNatClampNeg (t2 + t3)), M.2.2.2.2.2.2.2.2.2.2.2.1, M.2.2.2.2.2.2.2.2.2.2.2.2.1, M.2.2.2.2.2.2.2.2.2.2.2.2.2.1, M.2.2.2.2.2.2.2.2.2.2.2.2.2.2.1, M.2.2.2.2.2.2.2.2.2.2.2.2.2.2.2.1, M.2.2.2.2.2.2.2.2.2.2.2.2.2.2.2.2.1, M.2.2.2.2.2.2.2.2.2.2.2.2.2.2.2.2.2.1, M.2.2.2.2.2.2.2.2.2.2.2.2.2.2.2.2.2.2.1, M.2.2.2.2.2.2.2.2.2.2.2.2.2.2.2.2.2.2.2.1, M.2.2.2.2.2.2.2.2.2.2.2.2.2.2.2.2.2.2.2.2)) := hD
  refine lv_iload hx hb dX6_dictionary_185 (lv_at hl 0 rfl) ?_
  obtain rfl := Option.some.inj h
  exact xe_i C hP hD hS dX6_dictionary_187
set_option maxHeartbeats 4000000 in
set_option maxRecDepth 100000 in
theorem kX6_dictionary_163 {p : Program} {l : Launch} {e : Env} {s : State} {m : MethodId} {args : Array Value} {below : List Frame} {meth : Method} {c : Code} {D : va_G} {K : Nat → ClassId} {A : Nat → Prop} {aM : Nat → Nat} (C : xC p s m args meth c cX6_dictionary 10 (some .int) yX6_dictionary D K A []) : ∀ (M : S6) (x8 : Int32) (r : Int32 × (S6)), fX6_dictionary_163  M x8 = some r → ∀ (H : Heap) (locs : List Loc) (ls : Array Slot), va_P D vwCl (w6 aM K M) H → va_D A (w6 aM K M) → va_S A s.heap H locs → lv_has ls 10 [(0, .ref (aM 0)), (8, .int x8)] → W p l e (xR 1 23 (oX6_dictionary aM K r)) s m args below meth c H locs 0 0 (xQ below args s D K A (oX6_dictionary aM K r)) (F0 m 163 ls []) := by
  obtain ⟨hx, hb, hr, hml, hown, hK, hts, hA, hG, hlk, hte, hnm⟩ := id C
  intro M x8 r h H locs ls hP hD hS hl
  replace h : (if (3 : Int32) < 0 ∨ 9 ≤ ((3 : Int32)).toNatClampNeg then none else (if M.2.2.2.2.1 = 0 then fX6_dictionary_183 M x8 (3 : Int32) (M.2.2.2.2.2.2.2.2.2.2.1 ((3 : Int32)).toNatClampNeg) x8 else fX6_dictionary_183 M x8 (3 : Int32) (M.2.2.2.2.2.2.2.2.2.2.1 ((3 : Int32)).toNatClampNeg) (0 : Int32))) = some r := h
  refine lv_aload_n hx hb dX6_dictionary_163 rfl (lv_at hl 0 rfl) ?_
  refine va_get (D := D) (ci := 6) (v := .ref (aM 5)) (C := RX6) (T := TX6) (N := 21) hx hb hts xu_X6 hown hK hP 0 rfl rfl 10 (by decide) (hts _ xw_517) (fun _ h9 => h9) rfl dX6_dictionary_164 ?_
  refine lv_iconst (v := (3 : Int32)) hx hb dX6_dictionary_167 (by decide) ?_
  refine lv_dup2_11 hx hb dX6_dictionary_168 rfl rfl ?_
  obtain ⟨hi9, h⟩ := xi_g h
  refine va_iald hx hb hK hP 5 0 rfl rfl hi9 dX6_dictionary_169 ?_
  refine lv_aload_n hx hb dX6_dictionary_170 rfl (lv_at hl 0 rfl) ?_
  refine va_get (D := D) (ci := 6) (v := .int M.2.2.2.2.1) (C := RX6) (T := TX6) (N := 21) hx hb hts xu_X6 hown hK hP 0 rfl rfl 4 (by decide) (hts _ xw_511) (fun _ h9 => h9) rfl dX6_dictionary_171 ?_
  refine lv_if_eq (tgt := 181) hx hb dX6_dictionary_174 (by decide) (fun c9 => ?_) (fun c9 => ?_)
  · replace h := xi_t c9 h
    refine lv_iload hx hb dX6_dictionary_181 (lv_at hl 1 rfl) ?_
    exact kX6_dictionary_183 C _ _ _ _ _ _ h _ _ _ hP hD hS (lv_sub hl [1] rfl)
  · replace h := xi_f c9 h
    refine lv_iconst (v := (0 : Int32)) hx hb dX6_dictionary_177 (by decide) ?_
    refine lv_goto (tgt := 183) hx hb dX6_dictionary_178 (by decide) ?_
    exact kX6_dictionary_183 C _ _ _ _ _ _ h _ _ _ hP hD hS (lv_sub hl [1] rfl)
set_option maxHeartbeats 4000000 in
set_option maxRecDepth 100000 in
theorem kX6_dictionary_152 {p : Program} {l : Launch} {e : Env} {s : State} {m : MethodId} {args : Array Value} {below : List Frame} {meth : Method} {c : Code} {D : va_G} {K : Nat → ClassId} {A : Nat → Prop} {aM : Nat → Nat} (C : xC p s m args meth c cX6_dictionary 10 (some .int) yX6_dictionary D K A []) : ∀ (M : S6) (x4 : Int32) (x8 : Int32) (r : Int32 × (S6)), fX6_dictionary_152  M x4 x8 = some r → ∀ (H : Heap) (locs : List Loc) (ls : Array Slot), va_P D vwCl (w6 aM K M) H → va_D A (w6 aM K M) → va_S A s.heap H locs → lv_has ls 10 [(0, .ref (aM 0)), (4, .int x4), (8, .int x8)] → W p l e (xR 1 23 (oX6_dictionary aM K r)) s m args below meth c H locs 0 0 (xQ below args s D K A (oX6_dictionary aM K r)) (F0 m 152 ls []) := by
  obtain ⟨hx, hb, hr, hml, hown, hK, hts, hA, hG, hlk, hte, hnm⟩ := id C
  intro M x4 x8 r h H locs ls hP hD hS hl
  replace h : (if x4 = (4 : Int32) then xbnd0 (fX6_add M (0 : Int32)) (fun v_5 s_6 => fX6_dictionary_163 s_6 x8) else fX6_dictionary_163 M x8) = some r := h
  refine lv_iload hx hb dX6_dictionary_152 (lv_at hl 1 rfl) ?_
  refine lv_iconst (v := (4 : Int32)) hx hb dX6_dictionary_154 (by decide) ?_
  refine lv_icmp_ne (tgt := 163) hx hb dX6_dictionary_155 (by decide) (fun c9 => ?_) (fun c9 => ?_)
  · replace h := xi_f c9 h
    exact kX6_dictionary_163 C _ _ _ h _ _ _ hP hD hS (lv_sub hl [0, 2] rfl)
  · replace h := xi_t c9 h
    refine lv_aload_n hx hb dX6_dictionary_158 rfl (lv_at hl 0 rfl) ?_
    refine lv_iconst (v := (0 : Int32)) hx hb dX6_dictionary_159 (by decide) ?_
    obtain ⟨v_5, s_6, hc9, h⟩ := xi_d h
    refine xc_V (As := [.int (0 : Int32)]) (ws' := w6 aM K s_6) C (mX6_add l D K aM _ _ _ _ hc9) xgi_X6_81 xd_X6_add ⟨Nat.le_of_ble_eq_true rfl, Nat.le_of_ble_eq_true rfl⟩ ⟨Nat.zero_le _, Nat.zero_le _⟩ hl rfl (Nat.le_of_ble_eq_true rfl) dX6_dictionary_160 hP hD hS 0 6 rfl rfl rfl [0, 1, 2, 3, 4, 5, 6, 7, 8, 9, 10, 11] rfl rfl [(0, w6 aM K s_6)] rfl rfl rfl (List.forall_mem_cons.mpr ⟨Nat.le_of_ble_eq_true rfl, (fun _ h => absurd h List.not_mem_nil)⟩) (fun H locs hP hD hS => ?_)
    refine W.eq (g2 := F0 m 163 ls []) rfl ?_
    exact kX6_dictionary_163 C _ _ _ h _ _ _ hP hD hS (lv_sub hl [0, 2] rfl)
set_option maxHeartbeats 4000000 in
set_option maxRecDepth 100000 in
theorem kX6_dictionary_142 {p : Program} {l : Launch} {e : Env} {s : State} {m : MethodId} {args : Array Value} {below : List Frame} {meth : Method} {c : Code} {D : va_G} {K : Nat → ClassId} {A : Nat → Prop} {aM : Nat → Nat} (C : xC p s m args meth c cX6_dictionary 10 (some .int) yX6_dictionary D K A []) (rec102 : S6 → Int32 → Int32 → Int32 → Int32 → Int32 → Int32 → Option (Int32 × (S6))) (hrec102 : ∀ (M : S6) (x2 : Int32) (x4 : Int32) (x5 : Int32) (x7 : Int32) (x8 : Int32) (x9 : Int32) (r : Int32 × (S6)), rec102 M x2 x4 x5 x7 x8 x9 = some r → ∀ (H : Heap) (locs : List Loc) (ls : Array Slot), va_P D vwCl (w6 aM K M) H → va_D A (w6 aM K M) → va_S A s.heap H locs → lv_has ls 10 [(0, .ref (aM 0)), (2, .int x2), (4, .int x4), (5, .int x5), (7, .int x7), (8, .int x8), (9, .int x9)] → W p l e (xR 1 23 (oX6_dictionary aM K r)) s m args below meth c H locs 0 0 (xQ below args s D K A (oX6_dictionary aM K r)) (F0 m 102 ls [])) : ∀ (M : S6) (x2 : Int32) (x4 : Int32) (x5 : Int32) (x7 : Int32) (x8 : Int32) (x9 : Int32) (t1 : Int32) (t2 : Int32) (r : Int32 × (S6)), fX6_dictionary_142  rec102 M x2 x4 x5 x7 x8 x9 t1 t2 = some r → ∀ (H : Heap) (locs : List Loc) (ls : Array Slot), va_P D vwCl (w6 aM K M) H → va_D A (w6 aM K M) → va_S A s.heap H locs → lv_has ls 10 [(0, .ref (aM 0)), (2, .int x2), (4, .int x4), (5, .int x5), (7, .int x7), (8, .int x8), (9, .int x9)] → W p l e (xR 1 23 (oX6_dictionary aM K r)) s m args below meth c H locs 0 0 (xQ below args s D K A (oX6_dictionary aM K r)) (F0 m 142 ls [.int t2, .int t1, .ref (aM 0)]) := by
  obtain ⟨hx, hb, hr, hml, hown, hK, hts, hA, hG, hlk, hte, hnm⟩ := id C
  intro M x2 x4 x5 x7 x8 x9 t1 t2 r h H locs ls hP hD hS hl
  replace h : xbnd0 (fX6_add M (t1 ^^^ t2)) (fun v_3 s_4 => rec102 s_4 x2 x4 x5 x7 x8 (x9 + (1 : Int32))) = some r := h
  refine lv_ixor hx hb dX6_dictionary_142 ?_
  obtain ⟨v_3, s_4, hc9, h⟩ := xi_d h
  refine xc_V (As := [.int (t1 ^^^ t2)]) (ws' := w6 aM K s_4) C (mX6_add l D K aM _ _ _ _ hc9) xgi_X6_81 xd_X6_add ⟨Nat.le_of_ble_eq_true rfl, Nat.le_of_ble_eq_true rfl⟩ ⟨Nat.zero_le _, Nat.zero_le _⟩ hl rfl (Nat.le_of_ble_eq_true rfl) dX6_dictionary_143 hP hD hS 0 6 rfl rfl rfl [0, 1, 2, 3, 4, 5, 6, 7, 8, 9, 10, 11] rfl rfl [(0, w6 aM K s_4)] rfl rfl rfl (List.forall_mem_cons.mpr ⟨Nat.le_of_ble_eq_true rfl, (fun _ h => absurd h List.not_mem_nil)⟩) (fun H locs hP hD hS => ?_)
  refine W.eq (g2 := F0 m 146 ls []) rfl ?_
  refine lv_iinc (v := (x9 + (1 : Int32))) (lv' := [(9, .int (x9 + (1 : Int32))), (0, .ref (aM 0)), (2, .int x2), (4, .int x4), (5, .int x5), (7, .int x7), (8, .int x8)]) hx hb dX6_dictionary_146 hl (k := 6) rfl (by rfl) (by decide) rfl (fun ls hl => ?_)
  refine lv_goto (tgt := 102) hx hb dX6_dictionary_149 (by decide) ?_
  exact hrec102 _ _ _ _ _ _ _ _ h _ _ _ hP hD hS (lv_sub hl [1, 2, 3, 4, 5, 6, 0] rfl)
set_option maxHeartbeats 4000000 in
set_option maxRecDepth 100000 in
theorem kX6_dictionary_141 {p : Program} {l : Launch} {e : Env} {s : State} {m : MethodId} {args : Array Value} {below : List Frame} {meth : Method} {c : Code} {D : va_G} {K : Nat → ClassId} {A : Nat → Prop} {aM : Nat → Nat} (C : xC p s m args meth c cX6_dictionary 10 (some .int) yX6_dictionary D K A []) (rec102 : S6 → Int32 → Int32 → Int32 → Int32 → Int32 → Int32 → Option (Int32 × (S6))) (hrec102 : ∀ (M : S6) (x2 : Int32) (x4 : Int32) (x5 : Int32) (x7 : Int32) (x8 : Int32) (x9 : Int32) (r : Int32 × (S6)), rec102 M x2 x4 x5 x7 x8 x9 = some r → ∀ (H : Heap) (locs : List Loc) (ls : Array Slot), va_P D vwCl (w6 aM K M) H → va_D A (w6 aM K M) → va_S A s.heap H locs → lv_has ls 10 [(0, .ref (aM 0)), (2, .int x2), (4, .int x4), (5, .int x5), (7, .int x7), (8, .int x8), (9, .int x9)] → W p l e (xR 1 23 (oX6_dictionary aM K r)) s m args below meth c H locs 0 0 (xQ below args s D K A (oX6_dictionary aM K r)) (F0 m 102 ls [])) : ∀ (M : S6) (x2 : Int32) (x4 : Int32) (x5 : Int32) (x7 : Int32) (x8 : Int32) (x9 : Int32) (t1 : Int32) (r : Int32 × (S6)), fX6_dictionary_141  rec102 M x2 x4 x5 x7 x8 x9 t1 = some r → ∀ (H : Heap) (locs : List Loc) (ls : Array Slot), va_P D vwCl (w6 aM K M) H → va_D A (w6 aM K M) → va_S A s.heap H locs → lv_has ls 10 [(0, .ref (aM 0)), (2, .int x2), (4, .int x4), (5, .int x5), (7, .int x7), (8, .int x8), (9, .int x9)] → W p l e (xR 1 23 (oX6_dictionary aM K r)) s m args below meth c H locs 0 0 (xQ below args s D K A (oX6_dictionary aM K r)) (F0 m 141 ls [.int t1, .ref (aM 0)]) := by
  obtain ⟨hx, hb, hr, hml, hown, hK, hts, hA, hG, hlk, hte, hnm⟩ := id C
  intro M x2 x4 x5 x7 x8 x9 t1 r h H locs ls hP hD hS hl
  replace h : fX6_dictionary_142 rec102 M x2 x4 x5 x7 x8 x9 t1 (0 : Int32) = some r := h
  refine lv_iconst (v := (0 : Int32)) hx hb dX6_dictionary_141 (by decide) ?_
  exact kX6_dictionary_142 C _ hrec102 _ _ _ _ _ _ _ _ _ _ h _ _ _ hP hD hS (lv_sub hl [0, 1, 2, 3, 4, 5, 6] rfl)
set_option maxHeartbeats 4000000 in
set_option maxRecDepth 100000 in
theorem kX6_dictionary_102 {p : Program} {l : Launch} {e : Env} {s : State} {m : MethodId} {args : Array Value} {below : List Frame} {meth : Method} {c : Code} {D : va_G} {K : Nat → ClassId} {A : Nat → Prop} {aM : Nat → Nat} (C : xC p s m args meth c cX6_dictionary 10 (some .int) yX6_dictionary D K A []) : ∀ fu : Nat, ∀ (M : S6) (x2 : Int32) (x4 : Int32) (x5 : Int32) (x7 : Int32) (x8 : Int32) (x9 : Int32) (r : Int32 × (S6)), fX6_dictionary_102 fu M x2 x4 x5 x7 x8 x9 = some r → ∀ (H : Heap) (locs : List Loc) (ls : Array Slot), va_P D vwCl (w6 aM K M) H → va_D A (w6 aM K M) → va_S A s.heap H locs → lv_has ls 10 [(0, .ref (aM 0)), (2, .int x2), (4, .int x4), (5, .int x5), (7, .int x7), (8, .int x8), (9, .int x9)] → W p l e (xR 1 23 (oX6_dictionary aM K r)) s m args below meth c H locs 0 0 (xQ below args s D K A (oX6_dictionary aM K r)) (F0 m 102 ls []) := by
  obtain ⟨hx, hb, hr, hml, hown, hK, hts, hA, hG, hlk, hte, hnm⟩ := id C
  intro fu
  induction fu with
  | zero =>
    intro M x2 x4 x5 x7 x8 x9 r h
    exact nomatch (show (none : Option (Int32 × (S6))) = some r from h)
  | succ fu ih =>
    intro M x2 x4 x5 x7 x8 x9 r h H locs ls hP hD hS hl
    replace h : (if x7 ≤ x9 then fX6_dictionary_152 M x4 x8 else (if M.2.2.2.2.1 = 0 then xbnd0 (fX6_wordLetter M x5 x2 x9) (fun v_1 s_2 => (if x4 = (1 : Int32) then (if x9 = 0 then fX6_dictionary_142 (fX6_dictionary_102 fu) s_2 x2 x4 x5 x7 x8 x9 v_1 (1 : Int32) else fX6_dictionary_141 (fX6_dictionary_102 fu) s_2 x2 x4 x5 x7 x8 x9 v_1) else fX6_dictionary_141 (fX6_dictionary_102 fu) s_2 x2 x4 x5 x7 x8 x9 v_1)) else fX6_dictionary_152 M x4 x8)) = some r := h
    refine lv_iload hx hb dX6_dictionary_102 (lv_at hl 6 rfl) ?_
    refine lv_iload hx hb dX6_dictionary_104 (lv_at hl 4 rfl) ?_
    refine lv_icmp_ge (tgt := 152) hx hb dX6_dictionary_106 (by decide) (fun c9 => ?_) (fun c9 => ?_)
    · replace h := xi_t c9 h
      exact kX6_dictionary_152 C _ _ _ _ h _ _ _ hP hD hS (lv_sub hl [0, 2, 5] rfl)
    · replace h := xi_f c9 h
      refine lv_aload_n hx hb dX6_dictionary_109 rfl (lv_at hl 0 rfl) ?_
      refine va_get (D := D) (ci := 6) (v := .int M.2.2.2.2.1) (C := RX6) (T := TX6) (N := 21) hx hb hts xu_X6 hown hK hP 0 rfl rfl 4 (by decide) (hts _ xw_511) (fun _ h9 => h9) rfl dX6_dictionary_110 ?_
      refine lv_if_ne (tgt := 152) hx hb dX6_dictionary_113 (by decide) (fun c9 => ?_) (fun c9 => ?_)
      · replace h := xi_f c9 h
        exact kX6_dictionary_152 C _ _ _ _ h _ _ _ hP hD hS (lv_sub hl [0, 2, 5] rfl)
      · replace h := xi_t c9 h
        refine lv_aload_n hx hb dX6_dictionary_116 rfl (lv_at hl 0 rfl) ?_
        refine lv_aload_n hx hb dX6_dictionary_117 rfl (lv_at hl 0 rfl) ?_
        refine lv_iload hx hb dX6_dictionary_118 (lv_at hl 3 rfl) ?_
        refine lv_iload_n hx hb dX6_dictionary_120 rfl (lv_at hl 1 rfl) ?_
        refine lv_iload hx hb dX6_dictionary_121 (lv_at hl 6 rfl) ?_
        obtain ⟨v_1, s_2, hc9, h⟩ := xi_d h
        refine xc_V (As := [.int x5, .int x2, .int x9]) (ws' := w6 aM K s_2) C (mX6_wordLetter l D K aM _ _ _ _ _ _ hc9) xgi_X6_116 xd_X6_wordLetter ⟨Nat.le_of_ble_eq_true rfl, Nat.le_of_ble_eq_true rfl⟩ ⟨Nat.zero_le _, Nat.zero_le _⟩ hl rfl (Nat.le_of_ble_eq_true rfl) dX6_dictionary_123 hP hD hS 0 6 rfl rfl rfl [0, 1, 2, 3, 4, 5, 6, 7, 8, 9, 10, 11] rfl rfl [(0, w6 aM K s_2)] rfl rfl rfl (List.forall_mem_cons.mpr ⟨Nat.le_of_ble_eq_true rfl, (fun _ h => absurd h List.not_mem_nil)⟩) (fun H locs hP hD hS => ?_)
        refine W.eq (g2 := F0 m 126 ls [.int v_1, .ref (aM 0)]) rfl ?_
        refine lv_iload hx hb dX6_dictionary_126 (lv_at hl 2 rfl) ?_
        refine lv_iconst (v := (1 : Int32)) hx hb dX6_dictionary_128 (by decide) ?_
        refine lv_icmp_ne (tgt := 141) hx hb dX6_dictionary_129 (by decide) (fun c9 => ?_) (fun c9 => ?_)
        · replace h := xi_f c9 h
          exact kX6_dictionary_141 C _ ih _ _ _ _ _ _ _ _ _ h _ _ _ hP hD hS (lv_sub hl [0, 1, 2, 3, 4, 5, 6] rfl)
        · replace h := xi_t c9 h
          refine lv_iload hx hb dX6_dictionary_132 (lv_at hl 6 rfl) ?_
          refine lv_if_ne (tgt := 141) hx hb dX6_dictionary_134 (by decide) (fun c9 => ?_) (fun c9 => ?_)
          · replace h := xi_f c9 h
            exact kX6_dictionary_141 C _ ih _ _ _ _ _ _ _ _ _ h _ _ _ hP hD hS (lv_sub hl [0, 1, 2, 3, 4, 5, 6] rfl)
          · replace h := xi_t c9 h
            refine lv_iconst (v := (1 : Int32)) hx hb dX6_dictionary_137 (by decide) ?_
            refine lv_goto (tgt := 142) hx hb dX6_dictionary_138 (by decide) ?_
            exact kX6_dictionary_142 C _ ih _ _ _ _ _ _ _ _ _ _ h _ _ _ hP hD hS (lv_sub hl [0, 1, 2, 3, 4, 5, 6] rfl)
set_option maxHeartbeats 4000000 in
set_option maxRecDepth 100000 in
theorem kX6_dictionary_95 {p : Program} {l : Launch} {e : Env} {s : State} {m : MethodId} {args : Array Value} {below : List Frame} {meth : Method} {c : Code} {D : va_G} {K : Nat → ClassId} {A : Nat → Prop} {aM : Nat → Nat} (C : xC p s m args meth c cX6_dictionary 10 (some .int) yX6_dictionary D K A []) : ∀ (M : S6) (x2 : Int32) (x4 : Int32) (x5 : Int32) (x6 : Int32) (x7 : Int32) (x8 : Int32) (t1 : Int32) (r : Int32 × (S6)), fX6_dictionary_95  M x2 x4 x5 x6 x7 x8 t1 = some r → ∀ (H : Heap) (locs : List Loc) (ls : Array Slot), va_P D vwCl (w6 aM K M) H → va_D A (w6 aM K M) → va_S A s.heap H locs → lv_has ls 10 [(0, .ref (aM 0)), (2, .int x2), (4, .int x4), (5, .int x5), (6, .int x6), (7, .int x7), (8, .int x8)] → W p l e (xR 1 23 (oX6_dictionary aM K r)) s m args below meth c H locs 0 0 (xQ below args s D K A (oX6_dictionary aM K r)) (F0 m 95 ls [.int t1, .ref (aM 0)]) := by
  obtain ⟨hx, hb, hr, hml, hown, hK, hts, hA, hG, hlk, hte, hnm⟩ := id C
  intro M x2 x4 x5 x6 x7 x8 t1 r h H locs ls hP hD hS hl
  replace h : (if t1 = 0 ∨ t1 = 1 then fX6_dictionary_102 xF (M.1, M.2.1, M.2.2.1, M.2.2.2.1, t1, M.2.2.2.2.2.1, M.2.2.2.2.2.2.1, M.2.2.2.2.2.2.2.1, M.2.2.2.2.2.2.2.2.1, M.2.2.2.2.2.2.2.2.2.1, M.2.2.2.2.2.2.2.2.2.2.1, M.2.2.2.2.2.2.2.2.2.2.2.1, M.2.2.2.2.2.2.2.2.2.2.2.2.1, M.2.2.2.2.2.2.2.2.2.2.2.2.2.1, M.2.2.2.2.2.2.2.2.2.2.2.2.2.2.1, M.2.2.2.2.2.2.2.2.2.2.2.2.2.2.2.1, M.2.2.2.2.2.2.2.2.2.2.2.2.2.2.2.2.1, M.2.2.2.2.2.2.2.2.2.2.2.2.2.2.2.2.2.1, M.2.2.2.2.2.2.2.2.2.2.2.2.2.2.2.2.2.2.1, M.2.2.2.2.2.2.2.2.2.2.2.2.2.2.2.2.2.2.2.1, M.2.2.2.2.2.2.2.2.2.2.2.2.2.2.2.2.2.2.2.2) x2 x4 x5 x7 x8 x6 else none) = some r := h
  obtain ⟨hz9, h⟩ := xi_b h
  refine va_put (D := D) (ci := 6) (v := .int t1) (ty := .boolean) (C := RX6) (T := TX6) (N := 21) hx hb hts xu_X6 tyX6 tyX6_ok nmX6 hown hK hP hD hS 0 rfl rfl 4 (by decide) (hts _ xw_511) (fun _ h9 => h9) rfl (by decide +kernel) hz9.1 hz9.2 (Nat.le_of_ble_eq_true rfl) dX6_dictionary_95 (fun H locs hP hD hS => ?_)
  have hP : va_P D vwCl (w6 aM K (M.1, M.2.1, M.2.2.1, M.2.2.2.1, t1, M.2.2.2.2.2.1, M.2.2.2.2.2.2.1, M.2.2.2.2.2.2.2.1, M.2.2.2.2.2.2.2.2.1, M.2.2.2.2.2.2.2.2.2.1, M.2.2.2.2.2.2.2.2.2.2.1, M.2.2.2.2.2.2.2.2.2.2.2.1, M.2.2.2.2.2.2.2.2.2.2.2.2.1, M.2.2.2.2.2.2.2.2.2.2.2.2.2.1, M.2.2.2.2.2.2.2.2.2.2.2.2.2.2.1, M.2.2.2.2.2.2.2.2.2.2.2.2.2.2.2.1, M.2.2.2.2.2.2.2.2.2.2.2.2.2.2.2.2.1, M.2.2.2.2.2.2.2.2.2.2.2.2.2.2.2.2.2.1, M.2.2.2.2.2.2.2.2.2.2.2.2.2.2.2.2.2.2.1, M.2.2.2.2.2.2.2.2.2.2.2.2.2.2.2.2.2.2.2.1, M.2.2.2.2.2.2.2.2.2.2.2.2.2.2.2.2.2.2.2.2)) H := hP
  have hD : va_D A (w6 aM K (M.1, M.2.1, M.2.2.1, M.2.2.2.1, t1, M.2.2.2.2.2.1, M.2.2.2.2.2.2.1, M.2.2.2.2.2.2.2.1, M.2.2.2.2.2.2.2.2.1, M.2.2.2.2.2.2.2.2.2.1, M.2.2.2.2.2.2.2.2.2.2.1, M.2.2.2.2.2.2.2.2.2.2.2.1, M.2.2.2.2.2.2.2.2.2.2.2.2.1, M.2.2.2.2.2.2.2.2.2.2.2.2.2.1, M.2.2.2.2.2.2.2.2.2.2.2.2.2.2.1, M.2.2.2.2.2.2.2.2.2.2.2.2.2.2.2.1, M.2.2.2.2.2.2.2.2.2.2.2.2.2.2.2.2.1, M.2.2.2.2.2.2.2.2.2.2.2.2.2.2.2.2.2.1, M.2.2.2.2.2.2.2.2.2.2.2.2.2.2.2.2.2.2.1, M.2.2.2.2.2.2.2.2.2.2.2.2.2.2.2.2.2.2.2.1, M.2.2.2.2.2.2.2.2.2.2.2.2.2.2.2.2.2.2.2.2)) := hD
  refine lv_iload hx hb dX6_dictionary_98 (lv_at hl 4 rfl) ?_
  refine lv_istore (lv' := [(9, .int x6), (0, .ref (aM 0)), (2, .int x2), (4, .int x4), (5, .int x5), (6, .int x6), (7, .int x7), (8, .int x8)]) hx hb dX6_dictionary_100 hl (by decide) rfl (fun ls hl => ?_)
  exact kX6_dictionary_102 C _ _ _ _ _ _ _ _ _ h _ _ _ hP hD hS (lv_sub hl [1, 2, 3, 4, 6, 7, 0] rfl)
set_option maxHeartbeats 4000000 in
set_option maxRecDepth 100000 in
theorem kX6_dictionary_56 {p : Program} {l : Launch} {e : Env} {s : State} {m : MethodId} {args : Array Value} {below : List Frame} {meth : Method} {c : Code} {D : va_G} {K : Nat → ClassId} {A : Nat → Prop} {aM : Nat → Nat} (C : xC p s m args meth c cX6_dictionary 10 (some .int) yX6_dictionary D K A []) : ∀ (M : S6) (x2 : Int32) (x3 : Int32) (x4 : Int32) (x5 : Int32) (x6 : Int32) (x7 : Int32) (t0 : Int32) (t1 : Int32) (r : Int32 × (S6)), fX6_dictionary_56  M x2 x3 x4 x5 x6 x7 t0 t1 = some r → ∀ (H : Heap) (locs : List Loc) (ls : Array Slot), va_P D vwCl (w6 aM K M) H → va_D A (w6 aM K M) → va_S A s.heap H locs → lv_has ls 10 [(0, .ref (aM 0)), (2, .int x2), (3, .int x3), (4, .int x4), (5, .int x5), (6, .int x6), (7, .int x7)] → W p l e (xR 1 23 (oX6_dictionary aM K r)) s m args below meth c H locs 0 0 (xQ below args s D K A (oX6_dictionary aM K r)) (F0 m 56 ls [.int t1, .int t0]) := by
  obtain ⟨hx, hb, hr, hml, hown, hK, hts, hA, hG, hlk, hte, hnm⟩ := id C
  intro M x2 x3 x4 x5 x6 x7 t0 t1 r h H locs ls hP hD hS hl
  replace h : (if M.2.2.2.2.1 = 0 then (if x2 < (3 : Int32) then fX6_dictionary_95 M x2 x4 x5 x6 x7 (t0 + t1) (1 : Int32) else (if (6 : Int32) < x2 then fX6_dictionary_95 M x2 x4 x5 x6 x7 (t0 + t1) (1 : Int32) else (if (4 : Int32) < x4 then fX6_dictionary_95 M x2 x4 x5 x6 x7 (t0 + t1) (1 : Int32) else (if (t0 + t1) ≤ x3 then fX6_dictionary_95 M x2 x4 x5 x6 x7 (t0 + t1) (0 : Int32) else fX6_dictionary_95 M x2 x4 x5 x6 x7 (t0 + t1) (1 : Int32))))) else fX6_dictionary_95 M x2 x4 x5 x6 x7 (t0 + t1) (1 : Int32)) = some r := h
  refine lv_iadd hx hb dX6_dictionary_56 ?_
  refine lv_istore (lv' := [(8, .int (t0 + t1)), (0, .ref (aM 0)), (2, .int x2), (3, .int x3), (4, .int x4), (5, .int x5), (6, .int x6), (7, .int x7)]) hx hb dX6_dictionary_57 hl (by decide) rfl (fun ls hl => ?_)
  refine lv_aload_n hx hb dX6_dictionary_59 rfl (lv_at hl 1 rfl) ?_
  refine lv_aload_n hx hb dX6_dictionary_60 rfl (lv_at hl 1 rfl) ?_
  refine va_get (D := D) (ci := 6) (v := .int M.2.2.2.2.1) (C := RX6) (T := TX6) (N := 21) hx hb hts xu_X6 hown hK hP 0 rfl rfl 4 (by decide) (hts _ xw_511) (fun _ h9 => h9) rfl dX6_dictionary_61 ?_
  refine lv_if_ne (tgt := 90) hx hb dX6_dictionary_64 (by decide) (fun c9 => ?_) (fun c9 => ?_)
  · replace h := xi_f c9 h
    refine lv_iconst (v := (1 : Int32)) hx hb dX6_dictionary_90 (by decide) ?_
    refine lv_goto (tgt := 95) hx hb dX6_dictionary_91 (by decide) ?_
    exact kX6_dictionary_95 C _ _ _ _ _ _ _ _ _ h _ _ _ hP hD hS (lv_sub hl [1, 2, 4, 5, 6, 7, 0] rfl)
  · replace h := xi_t c9 h
    refine lv_iload_n hx hb dX6_dictionary_67 rfl (lv_at hl 2 rfl) ?_
    refine lv_iconst (v := (3 : Int32)) hx hb dX6_dictionary_68 (by decide) ?_
    refine lv_icmp_lt (tgt := 90) hx hb dX6_dictionary_69 (by decide) (fun c9 => ?_) (fun c9 => ?_)
    · replace h := xi_t c9 h
      refine lv_iconst (v := (1 : Int32)) hx hb dX6_dictionary_90 (by decide) ?_
      refine lv_goto (tgt := 95) hx hb dX6_dictionary_91 (by decide) ?_
      exact kX6_dictionary_95 C _ _ _ _ _ _ _ _ _ h _ _ _ hP hD hS (lv_sub hl [1, 2, 4, 5, 6, 7, 0] rfl)
    · replace h := xi_f c9 h
      refine lv_iload_n hx hb dX6_dictionary_72 rfl (lv_at hl 2 rfl) ?_
      refine lv_bipush (v := (6 : Int32)) hx hb dX6_dictionary_73 (by decide) ?_
      refine lv_icmp_gt (tgt := 90) hx hb dX6_dictionary_75 (by decide) (fun c9 => ?_) (fun c9 => ?_)
      · replace h := xi_t c9 h
        refine lv_iconst (v := (1 : Int32)) hx hb dX6_dictionary_90 (by decide) ?_
        refine lv_goto (tgt := 95) hx hb dX6_dictionary_91 (by decide) ?_
        exact kX6_dictionary_95 C _ _ _ _ _ _ _ _ _ h _ _ _ hP hD hS (lv_sub hl [1, 2, 4, 5, 6, 7, 0] rfl)
      · replace h := xi_f c9 h
        refine lv_iload hx hb dX6_dictionary_78 (lv_at hl 4 rfl) ?_
        refine lv_iconst (v := (4 : Int32)) hx hb dX6_dictionary_80 (by decide) ?_
        refine lv_icmp_gt (tgt := 90) hx hb dX6_dictionary_81 (by decide) (fun c9 => ?_) (fun c9 => ?_)
        · replace h := xi_t c9 h
          refine lv_iconst (v := (1 : Int32)) hx hb dX6_dictionary_90 (by decide) ?_
          refine lv_goto (tgt := 95) hx hb dX6_dictionary_91 (by decide) ?_
          exact kX6_dictionary_95 C _ _ _ _ _ _ _ _ _ h _ _ _ hP hD hS (lv_sub hl [1, 2, 4, 5, 6, 7, 0] rfl)
        · replace h := xi_f c9 h
          refine lv_iload hx hb dX6_dictionary_84 (lv_at hl 0 rfl) ?_
          refine lv_iload_n hx hb dX6_dictionary_86 rfl (lv_at hl 3 rfl) ?_
          refine lv_icmp_le (tgt := 94) hx hb dX6_dictionary_87 (by decide) (fun c9 => ?_) (fun c9 => ?_)
          · replace h := xi_t c9 h
            refine lv_iconst (v := (0 : Int32)) hx hb dX6_dictionary_94 (by decide) ?_
            exact kX6_dictionary_95 C _ _ _ _ _ _ _ _ _ h _ _ _ hP hD hS (lv_sub hl [1, 2, 4, 5, 6, 7, 0] rfl)
          · replace h := xi_f c9 h
            refine lv_iconst (v := (1 : Int32)) hx hb dX6_dictionary_90 (by decide) ?_
            refine lv_goto (tgt := 95) hx hb dX6_dictionary_91 (by decide) ?_
            exact kX6_dictionary_95 C _ _ _ _ _ _ _ _ _ h _ _ _ hP hD hS (lv_sub hl [1, 2, 4, 5, 6, 7, 0] rfl)
set_option maxHeartbeats 4000000 in
set_option maxRecDepth 100000 in
theorem kX6_dictionary_38 {p : Program} {l : Launch} {e : Env} {s : State} {m : MethodId} {args : Array Value} {below : List Frame} {meth : Method} {c : Code} {D : va_G} {K : Nat → ClassId} {A : Nat → Prop} {aM : Nat → Nat} (C : xC p s m args meth c cX6_dictionary 10 (some .int) yX6_dictionary D K A []) : ∀ (M : S6) (x2 : Int32) (x3 : Int32) (x4 : Int32) (x5 : Int32) (x6 : Int32) (t0 : Int32) (r : Int32 × (S6)), fX6_dictionary_38  M x2 x3 x4 x5 x6 t0 = some r → ∀ (H : Heap) (locs : List Loc) (ls : Array Slot), va_P D vwCl (w6 aM K M) H → va_D A (w6 aM K M) → va_S A s.heap H locs → lv_has ls 10 [(0, .ref (aM 0)), (2, .int x2), (3, .int x3), (4, .int x4), (5, .int x5), (6, .int x6)] → W p l e (xR 1 23 (oX6_dictionary aM K r)) s m args below meth c H locs 0 0 (xQ below args s D K A (oX6_dictionary aM K r)) (F0 m 38 ls [.int t0]) := by
  obtain ⟨hx, hb, hr, hml, hown, hK, hts, hA, hG, hlk, hte, hnm⟩ := id C
  intro M x2 x3 x4 x5 x6 t0 r h H locs ls hP hD hS hl
  replace h : (if x4 = (4 : Int32) then fX6_dictionary_56 M x2 x3 x4 x5 x6 t0 (t0 - x6) (1 : Int32) else fX6_dictionary_56 M x2 x3 x4 x5 x6 t0 (t0 - x6) (0 : Int32)) = some r := h
  refine lv_istore (lv' := [(7, .int t0), (0, .ref (aM 0)), (2, .int x2), (3, .int x3), (4, .int x4), (5, .int x5), (6, .int x6)]) hx hb dX6_dictionary_38 hl (by decide) rfl (fun ls hl => ?_)
  refine lv_iload hx hb dX6_dictionary_40 (lv_at hl 0 rfl) ?_
  refine lv_iload hx hb dX6_dictionary_42 (lv_at hl 6 rfl) ?_
  refine lv_isub hx hb dX6_dictionary_44 ?_
  refine lv_iload hx hb dX6_dictionary_45 (lv_at hl 4 rfl) ?_
  refine lv_iconst (v := (4 : Int32)) hx hb dX6_dictionary_47 (by decide) ?_
  refine lv_icmp_ne (tgt := 55) hx hb dX6_dictionary_48 (by decide) (fun c9 => ?_) (fun c9 => ?_)
  · replace h := xi_f c9 h
    refine lv_iconst (v := (0 : Int32)) hx hb dX6_dictionary_55 (by decide) ?_
    exact kX6_dictionary_56 C _ _ _ _ _ _ _ _ _ _ h _ _ _ hP hD hS (lv_sub hl [1, 2, 3, 4, 5, 6, 0] rfl)
  · replace h := xi_t c9 h
    refine lv_iconst (v := (1 : Int32)) hx hb dX6_dictionary_51 (by decide) ?_
    refine lv_goto (tgt := 56) hx hb dX6_dictionary_52 (by decide) ?_
    exact kX6_dictionary_56 C _ _ _ _ _ _ _ _ _ _ h _ _ _ hP hD hS (lv_sub hl [1, 2, 3, 4, 5, 6, 0] rfl)
set_option maxHeartbeats 4000000 in
set_option maxRecDepth 100000 in
theorem kX6_dictionary_23 {p : Program} {l : Launch} {e : Env} {s : State} {m : MethodId} {args : Array Value} {below : List Frame} {meth : Method} {c : Code} {D : va_G} {K : Nat → ClassId} {A : Nat → Prop} {aM : Nat → Nat} (C : xC p s m args meth c cX6_dictionary 10 (some .int) yX6_dictionary D K A []) : ∀ (M : S6) (x2 : Int32) (x3 : Int32) (x4 : Int32) (x5 : Int32) (t0 : Int32) (r : Int32 × (S6)), fX6_dictionary_23  M x2 x3 x4 x5 t0 = some r → ∀ (H : Heap) (locs : List Loc) (ls : Array Slot), va_P D vwCl (w6 aM K M) H → va_D A (w6 aM K M) → va_S A s.heap H locs → lv_has ls 10 [(0, .ref (aM 0)), (2, .int x2), (3, .int x3), (4, .int x4), (5, .int x5)] → W p l e (xR 1 23 (oX6_dictionary aM K r)) s m args below meth c H locs 0 0 (xQ below args s D K A (oX6_dictionary aM K r)) (F0 m 23 ls [.int t0]) := by
  obtain ⟨hx, hb, hr, hml, hown, hK, hts, hA, hG, hlk, hte, hnm⟩ := id C
  intro M x2 x3 x4 x5 t0 r h H locs ls hP hD hS hl
  replace h : (if x4 = (3 : Int32) then fX6_dictionary_38 M x2 x3 x4 x5 t0 (x2 - (1 : Int32)) else fX6_dictionary_38 M x2 x3 x4 x5 t0 x2) = some r := h
  refine lv_istore (lv' := [(6, .int t0), (0, .ref (aM 0)), (2, .int x2), (3, .int x3), (4, .int x4), (5, .int x5)]) hx hb dX6_dictionary_23 hl (by decide) rfl (fun ls hl => ?_)
  refine lv_iload hx hb dX6_dictionary_25 (lv_at hl 4 rfl) ?_
  refine lv_iconst (v := (3 : Int32)) hx hb dX6_dictionary_27 (by decide) ?_
  refine lv_icmp_ne (tgt := 37) hx hb dX6_dictionary_28 (by decide) (fun c9 => ?_) (fun c9 => ?_)
  · replace h := xi_f c9 h
    refine lv_iload_n hx hb dX6_dictionary_37 rfl (lv_at hl 2 rfl) ?_
    exact kX6_dictionary_38 C _ _ _ _ _ _ _ _ h _ _ _ hP hD hS (lv_sub hl [1, 2, 3, 4, 5, 0] rfl)
  · replace h := xi_t c9 h
    refine lv_iload_n hx hb dX6_dictionary_31 rfl (lv_at hl 2 rfl) ?_
    refine lv_iconst (v := (1 : Int32)) hx hb dX6_dictionary_32 (by decide) ?_
    refine lv_isub hx hb dX6_dictionary_33 ?_
    refine lv_goto (tgt := 38) hx hb dX6_dictionary_34 (by decide) ?_
    exact kX6_dictionary_38 C _ _ _ _ _ _ _ _ h _ _ _ hP hD hS (lv_sub hl [1, 2, 3, 4, 5, 0] rfl)
set_option maxHeartbeats 4000000 in
set_option maxRecDepth 100000 in
theorem mX6_dictionary (l : Launch) (D : va_G) (K : Nat → ClassId) (aM : Nat → Nat) (sz : Nat) (M : S6) (p1 : Int32) (p2 : Int32) (p3 : Int32) (r : Int32 × (S6)) (h : fX6_dictionary M p1 p2 p3 = some r) : xMet l yX6_dictionary cX6_dictionary 10 (some .int) 1 23 D K [.ref (aM 0), .int p1, .int p2, .int p3] sz (w6 aM K M) (oX6_dictionary aM K r) := by
  refine xm_of _ (by decide +kernel) (Nat.le_of_ble_eq_true rfl) (fun p e s m args below meth c A C hP hD ls hl => ?_)
  have hl : lv_has ls 10 [(0, .ref (aM 0)), (1, .int p1), (2, .int p2), (3, .int p3)] := hl
  have hS : va_S A s.heap s.heap [] := va_S.rf
  obtain ⟨hx, hb, hr, hml, hown, hK, hts, hA, hG, hlk, hte, hnm⟩ := id C
  replace h : (if (p1 / (8 : Int32)) = (2 : Int32) then fX6_dictionary_23 M p2 p3 (p1 / (8 : Int32)) (p1 - p1 / (8 : Int32) * (8 : Int32)) (1 : Int32) else fX6_dictionary_23 M p2 p3 (p1 / (8 : Int32)) (p1 - p1 / (8 : Int32) * (8 : Int32)) (0 : Int32)) = some r := h
  refine lv_iload_n hx hb dX6_dictionary_0 rfl (lv_at hl 1 rfl) ?_
  refine lv_bipush (v := (8 : Int32)) hx hb dX6_dictionary_1 (by decide) ?_
  refine lv_idiv hx hb dX6_dictionary_3 (by decide) ?_
  refine lv_istore (lv' := [(4, .int (p1 / (8 : Int32))), (0, .ref (aM 0)), (1, .int p1), (2, .int p2), (3, .int p3)]) hx hb dX6_dictionary_4 hl (by decide) rfl (fun ls hl => ?_)
  refine lv_iload_n hx hb dX6_dictionary_6 rfl (lv_at hl 2 rfl) ?_
  refine lv_bipush (v := (8 : Int32)) hx hb dX6_dictionary_7 (by decide) ?_
  refine lv_irem hx hb dX6_dictionary_9 (by decide) ?_
  refine lv_istore (lv' := [(5, .int (p1 - p1 / (8 : Int32) * (8 : Int32))), (4, .int (p1 / (8 : Int32))), (0, .ref (aM 0)), (1, .int p1), (2, .int p2), (3, .int p3)]) hx hb dX6_dictionary_10 hl (by decide) rfl (fun ls hl => ?_)
  refine lv_iload hx hb dX6_dictionary_12 (lv_at hl 1 rfl) ?_
  refine lv_iconst (v := (2 : Int32)) hx hb dX6_dictionary_14 (by decide) ?_
  refine lv_icmp_ne (tgt := 22) hx hb dX6_dictionary_15 (by decide) (fun c9 => ?_) (fun c9 => ?_)
  · replace h := xi_f c9 h
    refine lv_iconst (v := (0 : Int32)) hx hb dX6_dictionary_22 (by decide) ?_
    exact kX6_dictionary_23 C _ _ _ _ _ _ _ h _ _ _ hP hD hS (lv_sub hl [2, 4, 5, 1, 0] rfl)
  · replace h := xi_t c9 h
    refine lv_iconst (v := (1 : Int32)) hx hb dX6_dictionary_18 (by decide) ?_
    refine lv_goto (tgt := 23) hx hb dX6_dictionary_19 (by decide) ?_
    exact kX6_dictionary_23 C _ _ _ _ _ _ _ h _ _ _ hP hD hS (lv_sub hl [2, 4, 5, 1, 0] rfl)
abbrev oX6_piece (aM : Nat → Nat) (K : Nat → ClassId) (q : Int32 × (S6)) : xO := .inr ((some (.int q.1)), w6 aM K q.2)
def fX6_piece_187 (M : S6) (x1 : Int32) (x4 : Int32) : Option (Int32 × (S6)) := (if (5 : Int32) < 0 ∨ 9 ≤ ((5 : Int32)).toNatClampNeg then none else (if (2 : Int32) < 0 ∨ 9 ≤ ((2 : Int32)).toNatClampNeg then none else (if (2 : Int32) < 0 ∨ 9 ≤ ((2 : Int32)).toNatClampNeg then none else some (x1, (M.1, M.2.1, M.2.2.1, M.2.2.2.1, M.2.2.2.2.1, M.2.2.2.2.2.1, M.2.2.2.2.2.2.1, M.2.2.2.2.2.2.2.1, M.2.2.2.2.2.2.2.2.1, M.2.2.2.2.2.2.2.2.2.1, (upd (upd M.2.2.2.2.2.2.2.2.2.2.1 ((5 : Int32)).toNatClampNeg x4) ((2 : Int32)).toNatClampNeg (((upd M.2.2.2.2.2.2.2.2.2.2.1 ((5 : Int32)).toNatClampNeg x4) ((2 : Int32)).toNatClampNeg) + x1)), M.2.2.2.2.2.2.2.2.2.2.2.1, M.2.2.2.2.2.2.2.2.2.2.2.2.1, M.2.2.2.2.2.2.2.2.2.2.2.2.2.1, M.2.2.2.2.2.2.2.2.2.2.2.2.2.2.1, M.2.2.2.2.2.2.2.2.2.2.2.2.2.2.2.1, M.2.2.2.2.2.2.2.2.2.2.2.2.2.2.2.2.1, M.2.2.2.2.2.2.2.2.2.2.2.2.2.2.2.2.2.1, M.2.2.2.2.2.2.2.2.2.2.2.2.2.2.2.2.2.2.1, M.2.2.2.2.2.2.2.2.2.2.2.2.2.2.2.2.2.2.2.1, M.2.2.2.2.2.2.2.2.2.2.2.2.2.2.2.2.2.2.2.2)))))
def fX6_piece_155 : Nat → S6 → Int32 → Int32 → Int32 → Int32 → Option (Int32 × (S6))
  | 0 => fun _ _ _ _ _ => none
  | fu + 1 => fun M x1 x3 x4 x5 => (if x5 ≤ (5 : Int32) then fX6_piece_187 M x1 x4 else (if x3 ≤ 0 then fX6_piece_187 M x1 x4 else (if (x5 - (1 : Int32)) < 0 ∨ 9 ≤ ((x5 - (1 : Int32))).toNatClampNeg then none else (if x5 < 0 ∨ 9 ≤ (x5).toNatClampNeg then none else fX6_piece_155 fu (M.1, M.2.1, M.2.2.1, M.2.2.2.1, M.2.2.2.2.1, M.2.2.2.2.2.1, M.2.2.2.2.2.2.1, M.2.2.2.2.2.2.2.1, M.2.2.2.2.2.2.2.2.1, M.2.2.2.2.2.2.2.2.2.1, (upd M.2.2.2.2.2.2.2.2.2.2.1 (x5).toNatClampNeg (M.2.2.2.2.2.2.2.2.2.2.1 ((x5 - (1 : Int32))).toNatClampNeg)), M.2.2.2.2.2.2.2.2.2.2.2.1, M.2.2.2.2.2.2.2.2.2.2.2.2.1, M.2.2.2.2.2.2.2.2.2.2.2.2.2.1, M.2.2.2.2.2.2.2.2.2.2.2.2.2.2.1, M.2.2.2.2.2.2.2.2.2.2.2.2.2.2.2.1, M.2.2.2.2.2.2.2.2.2.2.2.2.2.2.2.2.1, M.2.2.2.2.2.2.2.2.2.2.2.2.2.2.2.2.2.1, M.2.2.2.2.2.2.2.2.2.2.2.2.2.2.2.2.2.2.1, M.2.2.2.2.2.2.2.2.2.2.2.2.2.2.2.2.2.2.2.1, M.2.2.2.2.2.2.2.2.2.2.2.2.2.2.2.2.2.2.2.2) x1 x3 x4 (x5 + (-1 : Int32))))))
def fX6_piece_151 (M : S6) (x1 : Int32) (x3 : Int32) (x4 : Int32) : Option (Int32 × (S6)) := fX6_piece_155 xF M x1 x3 x4 (8 : Int32)
def fX6_piece_116 : Nat → S6 → Int32 → Int32 → Int32 → Int32 → Option (Int32 × (S6))
  | 0 => fun _ _ _ _ _ => none
  | fu + 1 => fun M x1 x3 x4 x5 => (if x1 ≤ x5 then fX6_piece_151 M x1 x3 x4 else (if M.2.2.2.2.1 = 0 then (if (M.2.2.2.2.2.2.2.1 - x4) < 0 ∨ 400 ≤ ((M.2.2.2.2.2.2.2.1 - x4)).toNatClampNeg then none else xbnd0 (fX6_add M (M.2.2.2.2.2.2.2.2.1 ((M.2.2.2.2.2.2.2.1 - x4)).toNatClampNeg)) (fun v_7 s_8 => fX6_piece_116 fu s_8 x1 x3 x4 (x5 + (1 : Int32)))) else fX6_piece_151 M x1 x3 x4))
def fX6_piece_110 (M : S6) (x1 : Int32) (x3 : Int32) (x4 : Int32) (t1 : Int32) : Option (Int32 × (S6)) := (if t1 = 0 ∨ t1 = 1 then fX6_piece_116 xF (M.1, M.2.1, M.2.2.1, M.2.2.2.1, t1, M.2.2.2.2.2.1, M.2.2.2.2.2.2.1, M.2.2.2.2.2.2.2.1, M.2.2.2.2.2.2.2.2.1, M.2.2.2.2.2.2.2.2.2.1, M.2.2.2.2.2.2.2.2.2.2.1, M.2.2.2.2.2.2.2.2.2.2.2.1, M.2.2.2.2.2.2.2.2.2.2.2.2.1, M.2.2.2.2.2.2.2.2.2.2.2.2.2.1, M.2.2.2.2.2.2.2.2.2.2.2.2.2.2.1, M.2.2.2.2.2.2.2.2.2.2.2.2.2.2.2.1, M.2.2.2.2.2.2.2.2.2.2.2.2.2.2.2.2.1, M.2.2.2.2.2.2.2.2.2.2.2.2.2.2.2.2.2.1, M.2.2.2.2.2.2.2.2.2.2.2.2.2.2.2.2.2.2.1, M.2.2.2.2.2.2.2.2.2.2.2.2.2.2.2.2.2.2.2.1, M.2.2.2.2.2.2.2.2.2.2.2.2.2.2.2.2.2.2.2.2) x1 x3 x4 (0 : Int32) else none)
def fX6_piece_65 (M : S6) (x1 : Int32) (x2 : Int32) (x3 : Int32) (x4 : Int32) : Option (Int32 × (S6)) := (if M.2.2.2.2.1 = 0 then (if x4 ≤ M.2.2.2.2.2.2.2.1 then (if x1 ≤ x2 then fX6_piece_110 M x1 x3 x4 (0 : Int32) else fX6_piece_110 M x1 x3 x4 (1 : Int32)) else xbnd0 (fX6_dictionary M ((x4 - M.2.2.2.2.2.2.2.1) - (1 : Int32)) x1 x2) (fun v_5 s_6 => some (v_5, s_6))) else some ((0 : Int32), M))
def fX6_piece_23 (M : S6) (x1 : Int32) (x2 : Int32) (x3 : Int32) (t0 : Int32) : Option (Int32 × (S6)) := (if x3 ≤ (3 : Int32) then fX6_piece_65 M x1 x2 x3 t0 else xbnd0 (fX6_number M ((1 : Int32) + ((x3 - (4 : Int32)) / (2 : Int32)))) (fun v_3 s_4 => fX6_piece_65 s_4 x1 x2 x3 (((((2 : Int32) + ((x3 - (4 : Int32)) - (x3 - (4 : Int32)) / (2 : Int32) * (2 : Int32))) * ((1 : Int32) <<< (((1 : Int32) + ((x3 - (4 : Int32)) / (2 : Int32))) &&& 31))) - (3 : Int32)) + v_3)))
def fX6_piece (M : S6) (p1 : Int32) (p2 : Int32) : Option (Int32 × (S6)) := xbnd0 (fX6_symbol M (5 : Int32)) (fun v_1 s_2 => (if (4 : Int32) ≤ v_1 then fX6_piece_23 s_2 p1 p2 v_1 (0 : Int32) else (if ((5 : Int32) + v_1) < 0 ∨ 9 ≤ (((5 : Int32) + v_1)).toNatClampNeg then none else fX6_piece_23 s_2 p1 p2 v_1 (s_2.2.2.2.2.2.2.2.2.2.2.1 (((5 : Int32) + v_1)).toNatClampNeg))))
set_option maxHeartbeats 4000000 in
set_option maxRecDepth 100000 in
theorem kX6_piece_187 {p : Program} {l : Launch} {e : Env} {s : State} {m : MethodId} {args : Array Value} {below : List Frame} {meth : Method} {c : Code} {D : va_G} {K : Nat → ClassId} {A : Nat → Prop} {aM : Nat → Nat} (C : xC p s m args meth c cX6_piece 7 (some .int) yX6_piece D K A []) : ∀ (M : S6) (x1 : Int32) (x4 : Int32) (r : Int32 × (S6)), fX6_piece_187  M x1 x4 = some r → ∀ (H : Heap) (locs : List Loc) (ls : Array Slot), va_P D vwCl (w6 aM K M) H → va_D A (w6 aM K M) → va_S A s.heap H locs → lv_has ls 7 [(0, .ref (aM 0)), (1, .int x1), (4, .int x4)] → W p l e (xR 2 52 (oX6_piece aM K r)) s m args below meth c H locs 0 0 (xQ below args s D K A (oX6_piece aM K r)) (F0 m 187 ls []) := by
  obtain ⟨hx, hb, hr, hml, hown, hK, hts, hA, hG, hlk, hte, hnm⟩ := id C
  intro M x1 x4 r h H locs ls hP hD hS hl
  replace h : (if (5 : Int32) < 0 ∨ 9 ≤ ((5 : Int32)).toNatClampNeg then none else (if (2 : Int32) < 0 ∨ 9 ≤ ((2 : Int32)).toNatClampNeg then none else (if (2 : Int32) < 0 ∨ 9 ≤ ((2 : Int32)).toNatClampNeg then none else some (x1, (M.1, M.2.1, M.2.2.1, M.2.2.2.1, M.2.2.2.2.1, M.2.2.2.2.2.1, M.2.2.2.2.2.2.1, M.2.2.2.2.2.2.2.1, M.2.2.2.2.2.2.2.2.1, M.2.2.2.2.2.2.2.2.2.1, (upd (upd M.2.2.2.2.2.2.2.2.2.2.1 ((5 : Int32)).toNatClampNeg x4) ((2 : Int32)).toNatClampNeg (((upd M.2.2.2.2.2.2.2.2.2.2.1 ((5 : Int32)).toNatClampNeg x4) ((2 : Int32)).toNatClampNeg) + x1)), M.2.2.2.2.2.2.2.2.2.2.2.1, M.2.2.2.2.2.2.2.2.2.2.2.2.1, M.2.2.2.2.2.2.2.2.2.2.2.2.2.1, M.2.2.2.2.2.2.2.2.2.2.2.2.2.2.1, M.2.2.2.2.2.2.2.2.2.2.2.2.2.2.2.1, M.2.2.2.2.2.2.2.2.2.2.2.2.2.2.2.2.1, M.2.2.2.2.2.2.2.2.2.2.2.2.2.2.2.2.2.1, M.2.2.2.2.2.2.2.2.2.2.2.2.2.2.2.2.2.2.1, M.2.2.2.2.2.2.2.2.2.2.2.2.2.2.2.2.2.2.2.1, M.2.2.2.2.2.2.2.2.2.2.2.2.2.2.2.2.2.2.2.2))))) = some r := h
  refine lv_aload_n hx hb dX6_piece_187 rfl (lv_at hl 0 rfl) ?_
  refine va_get (D := D) (ci := 6) (v := .ref (aM 5)) (C := RX6) (T := TX6) (N := 21) hx hb hts xu_X6 hown hK hP 0 rfl rfl 10 (by decide) (hts _ xw_517) (fun _ h9 => h9) rfl dX6_piece_188 ?_
  refine lv_iconst (v := (5 : Int32)) hx hb dX6_piece_191 (by decide) ?_
  refine lv_iload hx hb dX6_piece_192 (lv_at hl 2 rfl) ?_
  obtain ⟨hi9, h⟩ := xi_g h
  refine va_iast hx hb hK hP hD hS 5 0 rfl rfl hi9 dX6_piece_194 (fun H locs hP hD hS => ?_)
  have hP : va_P D vwCl (w6 aM K (M.1, M.2.1, M.2.2.1, M.2.2.2.1, M.2.2.2.2.1, M.2.2.2.2.2.1, M.2.2.2.2.2.2.1, M.2.2.2.2.2.2.2.1, M.2.2.2.2.2.2.2.2.1, M.2.2.2.2.2.2.2.2.2.1, (upd M.2.2.2.2.2.2.2.2.2.2.1 ((5 : Int32)).toNatClampNeg x4), M.2.2.2.2.2.2.2.2.2.2.2.1, M.2.2.2.2.2.2.2.2.2.2.2.2.1, M.2.2.2.2.2.2.2.2.2.2.2.2.2.1, M.2.2.2.2.2.2.2.2.2.2.2.2.2.2.1, M.2.2.2.2.2.2.2.2.2.2.2.2.2.2.2.1, M.2.2.2.2.2.2.2.2.2.2.2.2.2.2.2.2.1, M.2.2.2.2.2.2.2.2.2.2.2.2.2.2.2.2.2.1, M.2.2.2.2.2.2.2.2.2.2.2.2.2.2.2.2.2.2.1, M.2.2.2.2.2.2.2.2.2.2.2.2.2.2.2.2.2.2.2.1, M.2.2.2.2.2.2.2.2.2.2.2.2.2.2.2.2.2.2.2.2)) H := hP
  have hD : va_D A (w6 aM K (M.1, M.2.1, M.2.2.1, M.2.2.2.1, M.2.2.2.2.1, M.2.2.2.2.2.1, M.2.2.2.2.2.2.1, M.2.2.2.2.2.2.2.1, M.2.2.2.2.2.2.2.2.1, M.2.2.2.2.2.2.2.2.2.1, (upd M.2.2.2.2.2.2.2.2.2.2.1 ((5 : Int32)).toNatClampNeg x4), M.2.2.2.2.2.2.2.2.2.2.2.1, M.2.2.2.2.2.2.2.2.2.2.2.2.1, M.2.2.2.2.2.2.2.2.2.2.2.2.2.1, M.2.2.2.2.2.2.2.2.2.2.2.2.2.2.1, M.2.2.2.2.2.2.2.2.2.2.2.2.2.2.2.1, M.2.2.2.2.2.2.2.2.2.2.2.2.2.2.2.2.1, M.2.2.2.2.2.2.2.2.2.2.2.2.2.2.2.2.2.1, M.2.2.2.2.2.2.2.2.2.2.2.2.2.2.2.2.2.2.1, M.2.2.2.2.2.2.2.2.2.2.2.2.2.2.2.2.2.2.2.1, M.2.2.2.2.2.2.2.2.2.2.2.2.2.2.2.2.2.2.2.2)) := hD
  refine lv_aload_n hx hb dX6_piece_195 rfl (lv_at hl 0 rfl) ?_
  refine va_get (D := D) (ci := 6) (v := .ref (aM 5)) (C := RX6) (T := TX6) (N := 21) hx hb hts xu_X6 hown hK hP 0 rfl rfl 10 (by decide) (hts _ xw_517) (fun _ h9 => h9) rfl dX6_piece_196 ?_
  refine lv_iconst (v := (2 : Int32)) hx hb dX6_piece_199 (by decide) ?_
  refine lv_dup2_11 hx hb dX6_piece_200 rfl rfl ?_
  obtain ⟨hi9, h⟩ := xi_g h
  refine va_iald hx hb hK hP 5 0 rfl rfl hi9 dX6_piece_201 ?_
  refine lv_iload_n hx hb dX6_piece_202 rfl (lv_at hl 1 rfl) ?_
  refine lv_iadd hx hb dX6_piece_203 ?_
  obtain ⟨hi9, h⟩ := xi_g h
  refine va_iast hx hb hK hP hD hS 5 0 rfl rfl hi9 dX6_piece_204 (fun H locs hP hD hS => ?_)
  have hP : va_P D vwCl (w6 aM K (M.1, M.2.1, M.2.2.1, M.2.2.2.1, M.2.2.2.2.1, M.2.2.2.2.2.1, M.2.2.2.2.2.2.1, M.2.2.2.2.2.2.2.1, M.2.2.2.2.2.2.2.2.1, M.2.2.2.2.2.2.2.2.2.1, (upd (upd M.2.2.2.2.2.2.2.2.2.2.1 ((5 : Int32)).toNatClampNeg x4) ((2 : Int32)).toNatClampNeg (((upd M.2.2.2.2.2.2.2.2.2.2.1 ((5 : Int32)).toNatClampNeg x4) ((2 : Int32)).toNatClampNeg) + x1)), M.2.2.2.2.2.2.2.2.2.2.2.1, M.2.2.2.2.2.2.2.2.2.2.2.2.1, M.2.2.2.2.2.2.2.2.2.2.2.2.2.1, M.2.2.2.2.2.2.2.2.2.2.2.2.2.2.1, M.2.2.2.2.2.2.2.2.2.2.2.2.2.2.2.1, M.2.2.2.2.2.2.2.2.2.2.2.2.2.2.2.2.1, M.2.2.2.2.2.2.2.2.2.2.2.2.2.2.2.2.2.1, M.2.2.2.2.2.2.2.2.2.2.2.2.2.2.2.2.2.2.1, M.2.2.2.2.2.2.2.2.2.2.2.2.2.2.2.2.2.2.2.1, M.2.2.2.2.2.2.2.2.2.2.2.2.2.2.2.2.2.2.2.2)) H := hP
  have hD : va_D A (w6 aM K (M.1, M.2.1, M.2.2.1, M.2.2.2.1, M.2.2.2.2.1, M.2.2.2.2.2.1, M.2.2.2.2.2.2.1, M.2.2.2.2.2.2.2.1, M.2.2.2.2.2.2.2.2.1, M.2.2.2.2.2.2.2.2.2.1, (upd (upd M.2.2.2.2.2.2.2.2.2.2.1 ((5 : Int32)).toNatClampNeg x4) ((2 : Int32)).toNatClampNeg (((upd M.2.2.2.2.2.2.2.2.2.2.1 ((5 : Int32)).toNatClampNeg x4) ((2 : Int32)).toNatClampNeg) + x1)), M.2.2.2.2.2.2.2.2.2.2.2.1, M.2.2.2.2.2.2.2.2.2.2.2.2.1, M.2.2.2.2.2.2.2.2.2.2.2.2.2.1, M.2.2.2.2.2.2.2.2.2.2.2.2.2.2.1, M.2.2.2.2.2.2.2.2.2.2.2.2.2.2.2.1, M.2.2.2.2.2.2.2.2.2.2.2.2.2.2.2.2.1, M.2.2.2.2.2.2.2.2.2.2.2.2.2.2.2.2.2.1, M.2.2.2.2.2.2.2.2.2.2.2.2.2.2.2.2.2.2.1, M.2.2.2.2.2.2.2.2.2.2.2.2.2.2.2.2.2.2.2.1, M.2.2.2.2.2.2.2.2.2.2.2.2.2.2.2.2.2.2.2.2)) := hD
  refine lv_iload_n hx hb dX6_piece_205 rfl (lv_at hl 1 rfl) ?_
  obtain rfl := Option.some.inj h
  exact xe_i C hP hD hS dX6_piece_206
set_option maxHeartbeats 4000000 in
set_option maxRecDepth 100000 in
theorem kX6_piece_155 {p : Program} {l : Launch} {e : Env} {s : State} {m : MethodId} {args : Array Value} {below : List Frame} {meth : Method} {c : Code} {D : va_G} {K : Nat → ClassId} {A : Nat → Prop} {aM : Nat → Nat} (C : xC p s m args meth c cX6_piece 7 (some .int) yX6_piece D K A []) : ∀ fu : Nat, ∀ (M : S6) (x1 : Int32) (x3 : Int32) (x4 : Int32) (x5 : Int32) (r : Int32 × (S6)), fX6_piece_155 fu M x1 x3 x4 x5 = some r → ∀ (H : Heap) (locs : List Loc) (ls : Array Slot), va_P D vwCl (w6 aM K M) H → va_D A (w6 aM K M) → va_S A s.heap H locs → lv_has ls 7 [(0, .ref (aM 0)), (1, .int x1), (3, .int x3), (4, .int x4), (5, .int x5)] → W p l e (xR 2 52 (oX6_piece aM K r)) s m args below meth c H locs 0 0 (xQ below args s D K A (oX6_piece aM K r)) (F0 m 155 ls []) := by
  obtain ⟨hx, hb, hr, hml, hown, hK, hts, hA, hG, hlk, hte, hnm⟩ := id C
  intro fu
  induction fu with
  | zero =>
    intro M x1 x3 x4 x5 r h
    exact nomatch (show (none : Option (Int32 × (S6))) = some r from h)
  | succ fu ih =>
    intro M x1 x3 x4 x5 r h H locs ls hP hD hS hl
    replace h : (if x5 ≤ (5 : Int32) then fX6_piece_187 M x1 x4 else (if x3 ≤ 0 then fX6_piece_187 M x1 x4 else (if (x5 - (1 : Int32)) < 0 ∨ 9 ≤ ((x5 - (1 : Int32))).toNatClampNeg then none else (if x5 < 0 ∨ 9 ≤ (x5).toNatClampNeg then none else fX6_piece_155 fu (M.1, M.2.1, M.2.2.1, M.2.2.2.1, M.2.2.2.2.1, M.2.2.2.2.2.1, M.2.2.2.2.2.2.1, M.2.2.2.2.2.2.2.1, M.2.2.2.2.2.2.2.2.1, M.2.2.2.2.2.2.2.2.2.1, (upd M.2.2.2.2.2.2.2.2.2.2.1 (x5).toNatClampNeg (M.2.2.2.2.2.2.2.2.2.2.1 ((x5 - (1 : Int32))).toNatClampNeg)), M.2.2.2.2.2.2.2.2.2.2.2.1, M.2.2.2.2.2.2.2.2.2.2.2.2.1, M.2.2.2.2.2.2.2.2.2.2.2.2.2.1, M.2.2.2.2.2.2.2.2.2.2.2.2.2.2.1, M.2.2.2.2.2.2.2.2.2.2.2.2.2.2.2.1, M.2.2.2.2.2.2.2.2.2.2.2.2.2.2.2.2.1, M.2.2.2.2.2.2.2.2.2.2.2.2.2.2.2.2.2.1, M.2.2.2.2.2.2.2.2.2.2.2.2.2.2.2.2.2.2.1, M.2.2.2.2.2.2.2.2.2.2.2.2.2.2.2.2.2.2.2.1, M.2.2.2.2.2.2.2.2.2.2.2.2.2.2.2.2.2.2.2.2) x1 x3 x4 (x5 + (-1 : Int32)))))) = some r := h
    refine lv_iload hx hb dX6_piece_155 (lv_at hl 4 rfl) ?_
    refine lv_iconst (v := (5 : Int32)) hx hb dX6_piece_157 (by decide) ?_
    refine lv_icmp_le (tgt := 187) hx hb dX6_piece_158 (by decide) (fun c9 => ?_) (fun c9 => ?_)
    · replace h := xi_t c9 h
      exact kX6_piece_187 C _ _ _ _ h _ _ _ hP hD hS (lv_sub hl [0, 1, 3] rfl)
    · replace h := xi_f c9 h
      refine lv_iload_n hx hb dX6_piece_161 rfl (lv_at hl 2 rfl) ?_
      refine lv_if_le (tgt := 187) hx hb dX6_piece_162 (by decide) (fun c9 => ?_) (fun c9 => ?_)
      · replace h := xi_t c9 h
        exact kX6_piece_187 C _ _ _ _ h _ _ _ hP hD hS (lv_sub hl [0, 1, 3] rfl)
      · replace h := xi_f c9 h
        refine lv_aload_n hx hb dX6_piece_165 rfl (lv_at hl 0 rfl) ?_
        refine va_get (D := D) (ci := 6) (v := .ref (aM 5)) (C := RX6) (T := TX6) (N := 21) hx hb hts xu_X6 hown hK hP 0 rfl rfl 10 (by decide) (hts _ xw_517) (fun _ h9 => h9) rfl dX6_piece_166 ?_
        refine lv_iload hx hb dX6_piece_169 (lv_at hl 4 rfl) ?_
        refine lv_aload_n hx hb dX6_piece_171 rfl (lv_at hl 0 rfl) ?_
        refine va_get (D := D) (ci := 6) (v := .ref (aM 5)) (C := RX6) (T := TX6) (N := 21) hx hb hts xu_X6 hown hK hP 0 rfl rfl 10 (by decide) (hts _ xw_517) (fun _ h9 => h9) rfl dX6_piece_172 ?_
        refine lv_iload hx hb dX6_piece_175 (lv_at hl 4 rfl) ?_
        refine lv_iconst (v := (1 : Int32)) hx hb dX6_piece_177 (by decide) ?_
        refine lv_isub hx hb dX6_piece_178 ?_
        obtain ⟨hi9, h⟩ := xi_g h
        refine va_iald hx hb hK hP 5 0 rfl rfl hi9 dX6_piece_179 ?_
        obtain ⟨hi9, h⟩ := xi_g h
        refine va_iast hx hb hK hP hD hS 5 0 rfl rfl hi9 dX6_piece_180 (fun H locs hP hD hS => ?_)
        have hP : va_P D vwCl (w6 aM K (M.1, M.2.1, M.2.2.1, M.2.2.2.1, M.2.2.2.2.1, M.2.2.2.2.2.1, M.2.2.2.2.2.2.1, M.2.2.2.2.2.2.2.1, M.2.2.2.2.2.2.2.2.1, M.2.2.2.2.2.2.2.2.2.1, (upd M.2.2.2.2.2.2.2.2.2.2.1 (x5).toNatClampNeg (M.2.2.2.2.2.2.2.2.2.2.1 ((x5 - (1 : Int32))).toNatClampNeg)), M.2.2.2.2.2.2.2.2.2.2.2.1, M.2.2.2.2.2.2.2.2.2.2.2.2.1, M.2.2.2.2.2.2.2.2.2.2.2.2.2.1, M.2.2.2.2.2.2.2.2.2.2.2.2.2.2.1, M.2.2.2.2.2.2.2.2.2.2.2.2.2.2.2.1, M.2.2.2.2.2.2.2.2.2.2.2.2.2.2.2.2.1, M.2.2.2.2.2.2.2.2.2.2.2.2.2.2.2.2.2.1, M.2.2.2.2.2.2.2.2.2.2.2.2.2.2.2.2.2.2.1, M.2.2.2.2.2.2.2.2.2.2.2.2.2.2.2.2.2.2.2.1, M.2.2.2.2.2.2.2.2.2.2.2.2.2.2.2.2.2.2.2.2)) H := hP
        have hD : va_D A (w6 aM K (M.1, M.2.1, M.2.2.1, M.2.2.2.1, M.2.2.2.2.1, M.2.2.2.2.2.1, M.2.2.2.2.2.2.1, M.2.2.2.2.2.2.2.1, M.2.2.2.2.2.2.2.2.1, M.2.2.2.2.2.2.2.2.2.1, (upd M.2.2.2.2.2.2.2.2.2.2.1 (x5).toNatClampNeg (M.2.2.2.2.2.2.2.2.2.2.1 ((x5 - (1 : Int32))).toNatClampNeg)), M.2.2.2.2.2.2.2.2.2.2.2.1, M.2.2.2.2.2.2.2.2.2.2.2.2.1, M.2.2.2.2.2.2.2.2.2.2.2.2.2.1, M.2.2.2.2.2.2.2.2.2.2.2.2.2.2.1, M.2.2.2.2.2.2.2.2.2.2.2.2.2.2.2.1, M.2.2.2.2.2.2.2.2.2.2.2.2.2.2.2.2.1, M.2.2.2.2.2.2.2.2.2.2.2.2.2.2.2.2.2.1, M.2.2.2.2.2.2.2.2.2.2.2.2.2.2.2.2.2.2.1, M.2.2.2.2.2.2.2.2.2.2.2.2.2.2.2.2.2.2.2.1, M.2.2.2.2.2.2.2.2.2.2.2.2.2.2.2.2.2.2.2.2)) := hD
        refine lv_iinc (v := (x5 + (-1 : Int32))) (lv' := [(5, .int (x5 + (-1 : Int32))), (0, .ref (aM 0)), (1, .int x1), (3, .int x3), (4, .int x4)]) hx hb dX6_piece_181 hl (k := 4) rfl (by rfl) (by decide) rfl (fun ls hl => ?_)
        refine lv_goto (tgt := 155) hx hb dX6_piece_184 (by decide) ?_
        exact ih _ _ _ _ _ _ h _ _ _ hP hD hS (lv_sub hl [1, 2, 3, 4, 0] rfl)
set_option maxHeartbeats 4000000 in
set_option maxRecDepth 100000 in
theorem kX6_piece_151 {p : Program} {l : Launch} {e : Env} {s : State} {m : MethodId} {args : Array Value} {below : List Frame} {meth : Method} {c : Code} {D : va_G} {K : Nat → ClassId} {A : Nat → Prop} {aM : Nat → Nat} (C : xC p s m args meth c cX6_piece 7 (some .int) yX6_piece D K A []) : ∀ (M : S6) (x1 : Int32) (x3 : Int32) (x4 : Int32) (r : Int32 × (S6)), fX6_piece_151  M x1 x3 x4 = some r → ∀ (H : Heap) (locs : List Loc) (ls : Array Slot), va_P D vwCl (w6 aM K M) H → va_D A (w6 aM K M) → va_S A s.heap H locs → lv_has ls 7 [(0, .ref (aM 0)), (1, .int x1), (3, .int x3), (4, .int x4)] → W p l e (xR 2 52 (oX6_piece aM K r)) s m args below meth c H locs 0 0 (xQ below args s D K A (oX6_piece aM K r)) (F0 m 151 ls []) := by
  obtain ⟨hx, hb, hr, hml, hown, hK, hts, hA, hG, hlk, hte, hnm⟩ := id C
  intro M x1 x3 x4 r h H locs ls hP hD hS hl
  replace h : fX6_piece_155 xF M x1 x3 x4 (8 : Int32) = some r := h
  refine lv_bipush (v := (8 : Int32)) hx hb dX6_piece_151 (by decide) ?_
  refine lv_istore (lv' := [(5, .int (8 : Int32)), (0, .ref (aM 0)), (1, .int x1), (3, .int x3), (4, .int x4)]) hx hb dX6_piece_153 hl (by decide) rfl (fun ls hl => ?_)
  exact kX6_piece_155 C _ _ _ _ _ _ _ h _ _ _ hP hD hS (lv_sub hl [1, 2, 3, 4, 0] rfl)
set_option maxHeartbeats 4000000 in
set_option maxRecDepth 100000 in
theorem kX6_piece_116 {p : Program} {l : Launch} {e : Env} {s : State} {m : MethodId} {args : Array Value} {below : List Frame} {meth : Method} {c : Code} {D : va_G} {K : Nat → ClassId} {A : Nat → Prop} {aM : Nat → Nat} (C : xC p s m args meth c cX6_piece 7 (some .int) yX6_piece D K A []) : ∀ fu : Nat, ∀ (M : S6) (x1 : Int32) (x3 : Int32) (x4 : Int32) (x5 : Int32) (r : Int32 × (S6)), fX6_piece_116 fu M x1 x3 x4 x5 = some r → ∀ (H : Heap) (locs : List Loc) (ls : Array Slot), va_P D vwCl (w6 aM K M) H → va_D A (w6 aM K M) → va_S A s.heap H locs → lv_has ls 7 [(0, .ref (aM 0)), (1, .int x1), (3, .int x3), (4, .int x4), (5, .int x5)] → W p l e (xR 2 52 (oX6_piece aM K r)) s m args below meth c H locs 0 0 (xQ below args s D K A (oX6_piece aM K r)) (F0 m 116 ls []) := by
  obtain ⟨hx, hb, hr, hml, hown, hK, hts, hA, hG, hlk, hte, hnm⟩ := id C
  intro fu
  induction fu with
  | zero =>
    intro M x1 x3 x4 x5 r h
    exact nomatch (show (none : Option (Int32 × (S6))) = some r from h)
  | succ fu ih =>
    intro M x1 x3 x4 x5 r h H locs ls hP hD hS hl
    replace h : (if x1 ≤ x5 then fX6_piece_151 M x1 x3 x4 else (if M.2.2.2.2.1 = 0 then (if (M.2.2.2.2.2.2.2.1 - x4) < 0 ∨ 400 ≤ ((M.2.2.2.2.2.2.2.1 - x4)).toNatClampNeg then none else xbnd0 (fX6_add M (M.2.2.2.2.2.2.2.2.1 ((M.2.2.2.2.2.2.2.1 - x4)).toNatClampNeg)) (fun v_7 s_8 => fX6_piece_116 fu s_8 x1 x3 x4 (x5 + (1 : Int32)))) else fX6_piece_151 M x1 x3 x4)) = some r := h
    refine lv_iload hx hb dX6_piece_116 (lv_at hl 4 rfl) ?_
    refine lv_iload_n hx hb dX6_piece_118 rfl (lv_at hl 1 rfl) ?_
    refine lv_icmp_ge (tgt := 151) hx hb dX6_piece_119 (by decide) (fun c9 => ?_) (fun c9 => ?_)
    · replace h := xi_t c9 h
      exact kX6_piece_151 C _ _ _ _ _ h _ _ _ hP hD hS (lv_sub hl [0, 1, 2, 3] rfl)
    · replace h := xi_f c9 h
      refine lv_aload_n hx hb dX6_piece_122 rfl (lv_at hl 0 rfl) ?_
      refine va_get (D := D) (ci := 6) (v := .int M.2.2.2.2.1) (C := RX6) (T := TX6) (N := 21) hx hb hts xu_X6 hown hK hP 0 rfl rfl 4 (by decide) (hts _ xw_511) (fun _ h9 => h9) rfl dX6_piece_123 ?_
      refine lv_if_ne (tgt := 151) hx hb dX6_piece_126 (by decide) (fun c9 => ?_) (fun c9 => ?_)
      · replace h := xi_f c9 h
        exact kX6_piece_151 C _ _ _ _ _ h _ _ _ hP hD hS (lv_sub hl [0, 1, 2, 3] rfl)
      · replace h := xi_t c9 h
        refine lv_aload_n hx hb dX6_piece_129 rfl (lv_at hl 0 rfl) ?_
        refine lv_aload_n hx hb dX6_piece_130 rfl (lv_at hl 0 rfl) ?_
        refine va_get (D := D) (ci := 6) (v := .ref (aM 3)) (C := RX6) (T := TX6) (N := 21) hx hb hts xu_X6 hown hK hP 0 rfl rfl 8 (by decide) (hts _ xw_515) (fun _ h9 => h9) rfl dX6_piece_131 ?_
        refine lv_aload_n hx hb dX6_piece_134 rfl (lv_at hl 0 rfl) ?_
        refine va_get (D := D) (ci := 6) (v := .int M.2.2.2.2.2.2.2.1) (C := RX6) (T := TX6) (N := 21) hx hb hts xu_X6 hown hK hP 0 rfl rfl 7 (by decide) (hts _ xw_514) (fun _ h9 => h9) rfl dX6_piece_135 ?_
        refine lv_iload hx hb dX6_piece_138 (lv_at hl 3 rfl) ?_
        refine lv_isub hx hb dX6_piece_140 ?_
        obtain ⟨hi9, h⟩ := xi_g h
        refine va_iald hx hb hK hP 3 0 rfl rfl hi9 dX6_piece_141 ?_
        obtain ⟨v_7, s_8, hc9, h⟩ := xi_d h
        refine xc_V (As := [.int (M.2.2.2.2.2.2.2.2.1 ((M.2.2.2.2.2.2.2.1 - x4)).toNatClampNeg)]) (ws' := w6 aM K s_8) C (mX6_add l D K aM _ _ _ _ hc9) xgi_X6_81 xd_X6_add ⟨Nat.le_of_ble_eq_true rfl, Nat.le_of_ble_eq_true rfl⟩ ⟨Nat.zero_le _, Nat.zero_le _⟩ hl rfl (Nat.le_of_ble_eq_true rfl) dX6_piece_142 hP hD hS 0 6 rfl rfl rfl [0, 1, 2, 3, 4, 5, 6, 7, 8, 9, 10, 11] rfl rfl [(0, w6 aM K s_8)] rfl rfl rfl (List.forall_mem_cons.mpr ⟨Nat.le_of_ble_eq_true rfl, (fun _ h => absurd h List.not_mem_nil)⟩) (fun H locs hP hD hS => ?_)
        refine W.eq (g2 := F0 m 145 ls []) rfl ?_
        refine lv_iinc (v := (x5 + (1 : Int32))) (lv' := [(5, .int (x5 + (1 : Int32))), (0, .ref (aM 0)), (1, .int x1), (3, .int x3), (4, .int x4)]) hx hb dX6_piece_145 hl (k := 4) rfl (by rfl) (by decide) rfl (fun ls hl => ?_)
        refine lv_goto (tgt := 116) hx hb dX6_piece_148 (by decide) ?_
        exact ih _ _ _ _ _ _ h _ _ _ hP hD hS (lv_sub hl [1, 2, 3, 4, 0] rfl)
set_option maxHeartbeats 4000000 in
set_option maxRecDepth 100000 in
theorem kX6_piece_110 {p : Program} {l : Launch} {e : Env} {s : State} {m : MethodId} {args : Array Value} {below : List Frame} {meth : Method} {c : Code} {D : va_G} {K : Nat → ClassId} {A : Nat → Prop} {aM : Nat → Nat} (C : xC p s m args meth c cX6_piece 7 (some .int) yX6_piece D K A []) : ∀ (M : S6) (x1 : Int32) (x3 : Int32) (x4 : Int32) (t1 : Int32) (r : Int32 × (S6)), fX6_piece_110  M x1 x3 x4 t1 = some r → ∀ (H : Heap) (locs : List Loc) (ls : Array Slot), va_P D vwCl (w6 aM K M) H → va_D A (w6 aM K M) → va_S A s.heap H locs → lv_has ls 7 [(0, .ref (aM 0)), (1, .int x1), (3, .int x3), (4, .int x4)] → W p l e (xR 2 52 (oX6_piece aM K r)) s m args below meth c H locs 0 0 (xQ below args s D K A (oX6_piece aM K r)) (F0 m 110 ls [.int t1, .ref (aM 0)]) := by
  obtain ⟨hx, hb, hr, hml, hown, hK, hts, hA, hG, hlk, hte, hnm⟩ := id C
  intro M x1 x3 x4 t1 r h H locs ls hP hD hS hl
  replace h : (if t1 = 0 ∨ t1 = 1 then fX6_piece_116 xF (M.1, M.2.1, M.2.2.1, M.2.2.2.1, t1, M.2.2.2.2.2.1, M.2.2.2.2.2.2.1, M.2.2.2.2.2.2.2.1, M.2.2.2.2.2.2.2.2.1, M.2.2.2.2.2.2.2.2.2.1, M.2.2.2.2.2.2.2.2.2.2.1, M.2.2.2.2.2.2.2.2.2.2.2.1, M.2.2.2.2.2.2.2.2.2.2.2.2.1, M.2.2.2.2.2.2.2.2.2.2.2.2.2.1, M.2.2.2.2.2.2.2.2.2.2.2.2.2.2.1, M.2.2.2.2.2.2.2.2.2.2.2.2.2.2.2.1, M.2.2.2.2.2.2.2.2.2.2.2.2.2.2.2.2.1, M.2.2.2.2.2.2.2.2.2.2.2.2.2.2.2.2.2.1, M.2.2.2.2.2.2.2.2.2.2.2.2.2.2.2.2.2.2.1, M.2.2.2.2.2.2.2.2.2.2.2.2.2.2.2.2.2.2.2.1, M.2.2.2.2.2.2.2.2.2.2.2.2.2.2.2.2.2.2.2.2) x1 x3 x4 (0 : Int32) else none) = some r := h
  obtain ⟨hz9, h⟩ := xi_b h
  refine va_put (D := D) (ci := 6) (v := .int t1) (ty := .boolean) (C := RX6) (T := TX6) (N := 21) hx hb hts xu_X6 tyX6 tyX6_ok nmX6 hown hK hP hD hS 0 rfl rfl 4 (by decide) (hts _ xw_511) (fun _ h9 => h9) rfl (by decide +kernel) hz9.1 hz9.2 (Nat.le_of_ble_eq_true rfl) dX6_piece_110 (fun H locs hP hD hS => ?_)
  have hP : va_P D vwCl (w6 aM K (M.1, M.2.1, M.2.2.1, M.2.2.2.1, t1, M.2.2.2.2.2.1, M.2.2.2.2.2.2.1, M.2.2.2.2.2.2.2.1, M.2.2.2.2.2.2.2.2.1, M.2.2.2.2.2.2.2.2.2.1, M.2.2.2.2.2.2.2.2.2.2.1, M.2.2.2.2.2.2.2.2.2.2.2.1, M.2.2.2.2.2.2.2.2.2.2.2.2.1, M.2.2.2.2.2.2.2.2.2.2.2.2.2.1, M.2.2.2.2.2.2.2.2.2.2.2.2.2.2.1, M.2.2.2.2.2.2.2.2.2.2.2.2.2.2.2.1, M.2.2.2.2.2.2.2.2.2.2.2.2.2.2.2.2.1, M.2.2.2.2.2.2.2.2.2.2.2.2.2.2.2.2.2.1, M.2.2.2.2.2.2.2.2.2.2.2.2.2.2.2.2.2.2.1, M.2.2.2.2.2.2.2.2.2.2.2.2.2.2.2.2.2.2.2.1, M.2.2.2.2.2.2.2.2.2.2.2.2.2.2.2.2.2.2.2.2)) H := hP
  have hD : va_D A (w6 aM K (M.1, M.2.1, M.2.2.1, M.2.2.2.1, t1, M.2.2.2.2.2.1, M.2.2.2.2.2.2.1, M.2.2.2.2.2.2.2.1, M.2.2.2.2.2.2.2.2.1, M.2.2.2.2.2.2.2.2.2.1, M.2.2.2.2.2.2.2.2.2.2.1, M.2.2.2.2.2.2.2.2.2.2.2.1, M.2.2.2.2.2.2.2.2.2.2.2.2.1, M.2.2.2.2.2.2.2.2.2.2.2.2.2.1, M.2.2.2.2.2.2.2.2.2.2.2.2.2.2.1, M.2.2.2.2.2.2.2.2.2.2.2.2.2.2.2.1, M.2.2.2.2.2.2.2.2.2.2.2.2.2.2.2.2.1, M.2.2.2.2.2.2.2.2.2.2.2.2.2.2.2.2.2.1, M.2.2.2.2.2.2.2.2.2.2.2.2.2.2.2.2.2.2.1, M.2.2.2.2.2.2.2.2.2.2.2.2.2.2.2.2.2.2.2.1, M.2.2.2.2.2.2.2.2.2.2.2.2.2.2.2.2.2.2.2.2)) := hD
  refine lv_iconst (v := (0 : Int32)) hx hb dX6_piece_113 (by decide) ?_
  refine lv_istore (lv' := [(5, .int (0 : Int32)), (0, .ref (aM 0)), (1, .int x1), (3, .int x3), (4, .int x4)]) hx hb dX6_piece_114 hl (by decide) rfl (fun ls hl => ?_)
  exact kX6_piece_116 C _ _ _ _ _ _ _ h _ _ _ hP hD hS (lv_sub hl [1, 2, 3, 4, 0] rfl)
set_option maxHeartbeats 4000000 in
set_option maxRecDepth 100000 in
theorem kX6_piece_65 {p : Program} {l : Launch} {e : Env} {s : State} {m : MethodId} {args : Array Value} {below : List Frame} {meth : Method} {c : Code} {D : va_G} {K : Nat → ClassId} {A : Nat → Prop} {aM : Nat → Nat} (C : xC p s m args meth c cX6_piece 7 (some .int) yX6_piece D K A []) : ∀ (M : S6) (x1 : Int32) (x2 : Int32) (x3 : Int32) (x4 : Int32) (r : Int32 × (S6)), fX6_piece_65  M x1 x2 x3 x4 = some r → ∀ (H : Heap) (locs : List Loc) (ls : Array Slot), va_P D vwCl (w6 aM K M) H → va_D A (w6 aM K M) → va_S A s.heap H locs → lv_has ls 7 [(0, .ref (aM 0)), (1, .int x1), (2, .int x2), (3, .int x3), (4, .int x4)] → W p l e (xR 2 52 (oX6_piece aM K r)) s m args below meth c H locs 0 0 (xQ below args s D K A (oX6_piece aM K r)) (F0 m 65 ls []) := by
  obtain ⟨hx, hb, hr, hml, hown, hK, hts, hA, hG, hlk, hte, hnm⟩ := id C
  intro M x1 x2 x3 x4 r h H locs ls hP hD hS hl
  replace h : (if M.2.2.2.2.1 = 0 then (if x4 ≤ M.2.2.2.2.2.2.2.1 then (if x1 ≤ x2 then fX6_piece_110 M x1 x3 x4 (0 : Int32) else fX6_piece_110 M x1 x3 x4 (1 : Int32)) else xbnd0 (fX6_dictionary M ((x4 - M.2.2.2.2.2.2.2.1) - (1 : Int32)) x1 x2) (fun v_5 s_6 => some (v_5, s_6))) else some ((0 : Int32), M)) = some r := h
  refine lv_aload_n hx hb dX6_piece_65 rfl (lv_at hl 0 rfl) ?_
  refine va_get (D := D) (ci := 6) (v := .int M.2.2.2.2.1) (C := RX6) (T := TX6) (N := 21) hx hb hts xu_X6 hown hK hP 0 rfl rfl 4 (by decide) (hts _ xw_511) (fun _ h9 => h9) rfl dX6_piece_66 ?_
  refine lv_if_eq (tgt := 74) hx hb dX6_piece_69 (by decide) (fun c9 => ?_) (fun c9 => ?_)
  · replace h := xi_t c9 h
    refine lv_iload hx hb dX6_piece_74 (lv_at hl 4 rfl) ?_
    refine lv_aload_n hx hb dX6_piece_76 rfl (lv_at hl 0 rfl) ?_
    refine va_get (D := D) (ci := 6) (v := .int M.2.2.2.2.2.2.2.1) (C := RX6) (T := TX6) (N := 21) hx hb hts xu_X6 hown hK hP 0 rfl rfl 7 (by decide) (hts _ xw_514) (fun _ h9 => h9) rfl dX6_piece_77 ?_
    refine lv_icmp_le (tgt := 99) hx hb dX6_piece_80 (by decide) (fun c9 => ?_) (fun c9 => ?_)
    · replace h := xi_t c9 h
      refine lv_aload_n hx hb dX6_piece_99 rfl (lv_at hl 0 rfl) ?_
      refine lv_iload_n hx hb dX6_piece_100 rfl (lv_at hl 1 rfl) ?_
      refine lv_iload_n hx hb dX6_piece_101 rfl (lv_at hl 2 rfl) ?_
      refine lv_icmp_le (tgt := 109) hx hb dX6_piece_102 (by decide) (fun c9 => ?_) (fun c9 => ?_)
      · replace h := xi_t c9 h
        refine lv_iconst (v := (0 : Int32)) hx hb dX6_piece_109 (by decide) ?_
        exact kX6_piece_110 C _ _ _ _ _ _ h _ _ _ hP hD hS (lv_sub hl [0, 1, 3, 4] rfl)
      · replace h := xi_f c9 h
        refine lv_iconst (v := (1 : Int32)) hx hb dX6_piece_105 (by decide) ?_
        refine lv_goto (tgt := 110) hx hb dX6_piece_106 (by decide) ?_
        exact kX6_piece_110 C _ _ _ _ _ _ h _ _ _ hP hD hS (lv_sub hl [0, 1, 3, 4] rfl)
    · replace h := xi_f c9 h
      refine lv_aload_n hx hb dX6_piece_83 rfl (lv_at hl 0 rfl) ?_
      refine lv_iload hx hb dX6_piece_84 (lv_at hl 4 rfl) ?_
      refine lv_aload_n hx hb dX6_piece_86 rfl (lv_at hl 0 rfl) ?_
      refine va_get (D := D) (ci := 6) (v := .int M.2.2.2.2.2.2.2.1) (C := RX6) (T := TX6) (N := 21) hx hb hts xu_X6 hown hK hP 0 rfl rfl 7 (by decide) (hts _ xw_514) (fun _ h9 => h9) rfl dX6_piece_87 ?_
      refine lv_isub hx hb dX6_piece_90 ?_
      refine lv_iconst (v := (1 : Int32)) hx hb dX6_piece_91 (by decide) ?_
      refine lv_isub hx hb dX6_piece_92 ?_
      refine lv_iload_n hx hb dX6_piece_93 rfl (lv_at hl 1 rfl) ?_
      refine lv_iload_n hx hb dX6_piece_94 rfl (lv_at hl 2 rfl) ?_
      obtain ⟨v_5, s_6, hc9, h⟩ := xi_d h
      refine xc_V (As := [.int ((x4 - M.2.2.2.2.2.2.2.1) - (1 : Int32)), .int x1, .int x2]) (ws' := w6 aM K s_6) C (mX6_dictionary l D K aM _ _ _ _ _ _ hc9) xgi_X6_120 xd_X6_dictionary ⟨Nat.le_of_ble_eq_true rfl, Nat.le_of_ble_eq_true rfl⟩ ⟨Nat.zero_le _, Nat.zero_le _⟩ hl rfl (Nat.le_of_ble_eq_true rfl) dX6_piece_95 hP hD hS 0 6 rfl rfl rfl [0, 1, 2, 3, 4, 5, 6, 7, 8, 9, 10, 11] rfl rfl [(0, w6 aM K s_6)] rfl rfl rfl (List.forall_mem_cons.mpr ⟨Nat.le_of_ble_eq_true rfl, (fun _ h => absurd h List.not_mem_nil)⟩) (fun H locs hP hD hS => ?_)
      refine W.eq (g2 := F0 m 98 ls [.int v_5]) rfl ?_
      obtain rfl := Option.some.inj h
      exact xe_i C hP hD hS dX6_piece_98
  · replace h := xi_f c9 h
    refine lv_iconst (v := (0 : Int32)) hx hb dX6_piece_72 (by decide) ?_
    obtain rfl := Option.some.inj h
    exact xe_i C hP hD hS dX6_piece_73
set_option maxHeartbeats 4000000 in
set_option maxRecDepth 100000 in
theorem kX6_piece_23 {p : Program} {l : Launch} {e : Env} {s : State} {m : MethodId} {args : Array Value} {below : List Frame} {meth : Method} {c : Code} {D : va_G} {K : Nat → ClassId} {A : Nat → Prop} {aM : Nat → Nat} (C : xC p s m args meth c cX6_piece 7 (some .int) yX6_piece D K A []) : ∀ (M : S6) (x1 : Int32) (x2 : Int32) (x3 : Int32) (t0 : Int32) (r : Int32 × (S6)), fX6_piece_23  M x1 x2 x3 t0 = some r → ∀ (H : Heap) (locs : List Loc) (ls : Array Slot), va_P D vwCl (w6 aM K M) H → va_D A (w6 aM K M) → va_S A s.heap H locs → lv_has ls 7 [(0, .ref (aM 0)), (1, .int x1), (2, .int x2), (3, .int x3)] → W p l e (xR 2 52 (oX6_piece aM K r)) s m args below meth c H locs 0 0 (xQ below args s D K A (oX6_piece aM K r)) (F0 m 23 ls [.int t0]) := by
  obtain ⟨hx, hb, hr, hml, hown, hK, hts, hA, hG, hlk, hte, hnm⟩ := id C
  intro M x1 x2 x3 t0 r h H locs ls hP hD hS hl
  replace h : (if x3 ≤ (3 : Int32) then fX6_piece_65 M x1 x2 x3 t0 else xbnd0 (fX6_number M ((1 : Int32) + ((x3 - (4 : Int32)) / (2 : Int32)))) (fun v_3 s_4 => fX6_piece_65 s_4 x1 x2 x3 (((((2 : Int32) + ((x3 - (4 : Int32)) - (x3 - (4 : Int32)) / (2 : Int32) * (2 : Int32))) * ((1 : Int32) <<< (((1 : Int32) + ((x3 - (4 : Int32)) / (2 : Int32))) &&& 31))) - (3 : Int32)) + v_3))) = some r := h
  refine lv_istore (lv' := [(4, .int t0), (0, .ref (aM 0)), (1, .int x1), (2, .int x2), (3, .int x3)]) hx hb dX6_piece_23 hl (by decide) rfl (fun ls hl => ?_)
  refine lv_iload_n hx hb dX6_piece_25 rfl (lv_at hl 4 rfl) ?_
  refine lv_iconst (v := (3 : Int32)) hx hb dX6_piece_26 (by decide) ?_
  refine lv_icmp_le (tgt := 65) hx hb dX6_piece_27 (by decide) (fun c9 => ?_) (fun c9 => ?_)
  · replace h := xi_t c9 h
    exact kX6_piece_65 C _ _ _ _ _ _ h _ _ _ hP hD hS (lv_sub hl [1, 2, 3, 4, 0] rfl)
  · replace h := xi_f c9 h
    refine lv_iload_n hx hb dX6_piece_30 rfl (lv_at hl 4 rfl) ?_
    refine lv_iconst (v := (4 : Int32)) hx hb dX6_piece_31 (by decide) ?_
    refine lv_isub hx hb dX6_piece_32 ?_
    refine lv_istore (lv' := [(5, .int (x3 - (4 : Int32))), (4, .int t0), (0, .ref (aM 0)), (1, .int x1), (2, .int x2), (3, .int x3)]) hx hb dX6_piece_33 hl (by decide) rfl (fun ls hl => ?_)
    refine lv_iconst (v := (1 : Int32)) hx hb dX6_piece_35 (by decide) ?_
    refine lv_iload hx hb dX6_piece_36 (lv_at hl 0 rfl) ?_
    refine lv_iconst (v := (2 : Int32)) hx hb dX6_piece_38 (by decide) ?_
    refine lv_idiv hx hb dX6_piece_39 (by decide) ?_
    refine lv_iadd hx hb dX6_piece_40 ?_
    refine lv_istore (lv' := [(6, .int ((1 : Int32) + ((x3 - (4 : Int32)) / (2 : Int32)))), (5, .int (x3 - (4 : Int32))), (4, .int t0), (0, .ref (aM 0)), (1, .int x1), (2, .int x2), (3, .int x3)]) hx hb dX6_piece_41 hl (by decide) rfl (fun ls hl => ?_)
    refine lv_iconst (v := (2 : Int32)) hx hb dX6_piece_43 (by decide) ?_
    refine lv_iload hx hb dX6_piece_44 (lv_at hl 1 rfl) ?_
    refine lv_iconst (v := (2 : Int32)) hx hb dX6_piece_46 (by decide) ?_
    refine lv_irem hx hb dX6_piece_47 (by decide) ?_
    refine lv_iadd hx hb dX6_piece_48 ?_
    refine lv_iconst (v := (1 : Int32)) hx hb dX6_piece_49 (by decide) ?_
    refine lv_iload hx hb dX6_piece_50 (lv_at hl 0 rfl) ?_
    refine lv_ishl hx hb dX6_piece_52 ?_
    refine lv_imul hx hb dX6_piece_53 ?_
    refine lv_iconst (v := (3 : Int32)) hx hb dX6_piece_54 (by decide) ?_
    refine lv_isub hx hb dX6_piece_55 ?_
    refine lv_aload_n hx hb dX6_piece_56 rfl (lv_at hl 3 rfl) ?_
    refine lv_iload hx hb dX6_piece_57 (lv_at hl 0 rfl) ?_
    obtain ⟨v_3, s_4, hc9, h⟩ := xi_d h
    refine xc_V (As := [.int ((1 : Int32) + ((x3 - (4 : Int32)) / (2 : Int32)))]) (ws' := w6 aM K s_4) C (mX6_number l D K aM _ _ _ _ hc9) xgi_X6_66 xd_X6_number ⟨Nat.le_of_ble_eq_true rfl, Nat.le_of_ble_eq_true rfl⟩ ⟨Nat.zero_le _, Nat.zero_le _⟩ hl rfl (Nat.le_of_ble_eq_true rfl) dX6_piece_59 hP hD hS 0 6 rfl rfl rfl [0, 1, 2, 3, 4, 5, 6, 7, 8, 9, 10, 11] rfl rfl [(0, w6 aM K s_4)] rfl rfl rfl (List.forall_mem_cons.mpr ⟨Nat.le_of_ble_eq_true rfl, (fun _ h => absurd h List.not_mem_nil)⟩) (fun H locs hP hD hS => ?_)
    refine W.eq (g2 := F0 m 62 ls [.int v_3, .int ((((2 : Int32) + ((x3 - (4 : Int32)) - (x3 - (4 : Int32)) / (2 : Int32) * (2 : Int32))) * ((1 : Int32) <<< (((1 : Int32) + ((x3 - (4 : Int32)) / (2 : Int32))) &&& 31))) - (3 : Int32))]) rfl ?_
    refine lv_iadd hx hb dX6_piece_62 ?_
    refine lv_istore (lv' := [(4, .int (((((2 : Int32) + ((x3 - (4 : Int32)) - (x3 - (4 : Int32)) / (2 : Int32) * (2 : Int32))) * ((1 : Int32) <<< (((1 : Int32) + ((x3 - (4 : Int32)) / (2 : Int32))) &&& 31))) - (3 : Int32)) + v_3)), (6, .int ((1 : Int32) + ((x3 - (4 : Int32)) / (2 : Int32)))), (5, .int (x3 - (4 : Int32))), (0, .ref (aM 0)), (1, .int x1), (2, .int x2), (3, .int x3)]) hx hb dX6_piece_63 hl (by decide) rfl (fun ls hl => ?_)
    exact kX6_piece_65 C _ _ _ _ _ _ h _ _ _ hP hD hS (lv_sub hl [3, 4, 5, 6, 0] rfl)
set_option maxHeartbeats 4000000 in
set_option maxRecDepth 100000 in
theorem mX6_piece (l : Launch) (D : va_G) (K : Nat → ClassId) (aM : Nat → Nat) (sz : Nat) (M : S6) (p1 : Int32) (p2 : Int32) (r : Int32 × (S6)) (h : fX6_piece M p1 p2 = some r) : xMet l yX6_piece cX6_piece 7 (some .int) 2 52 D K [.ref (aM 0), .int p1, .int p2] sz (w6 aM K M) (oX6_piece aM K r) := by
  refine xm_of _ (by decide +kernel) (Nat.le_of_ble_eq_true rfl) (fun p e s m args below meth c A C hP hD ls hl => ?_)
  have hl : lv_has ls 7 [(0, .ref (aM 0)), (1, .int p1), (2, .int p2)] := hl
  have hS : va_S A s.heap s.heap [] := va_S.rf
  obtain ⟨hx, hb, hr, hml, hown, hK, hts, hA, hG, hlk, hte, hnm⟩ := id C
  replace h : xbnd0 (fX6_symbol M (5 : Int32)) (fun v_1 s_2 => (if (4 : Int32) ≤ v_1 then fX6_piece_23 s_2 p1 p2 v_1 (0 : Int32) else (if ((5 : Int32) + v_1) < 0 ∨ 9 ≤ (((5 : Int32) + v_1)).toNatClampNeg then none else fX6_piece_23 s_2 p1 p2 v_1 (s_2.2.2.2.2.2.2.2.2.2.2.1 (((5 : Int32) + v_1)).toNatClampNeg)))) = some r := h
  refine lv_aload_n hx hb dX6_piece_0 rfl (lv_at hl 0 rfl) ?_
  refine lv_iconst (v := (5 : Int32)) hx hb dX6_piece_1 (by decide) ?_
  obtain ⟨v_1, s_2, hc9, h⟩ := xi_d h
  refine xc_V (As := [.int (5 : Int32)]) (ws' := w6 aM K s_2) C (mX6_symbol l D K aM _ _ _ _ hc9) xgi_X6_106 xd_X6_symbol ⟨Nat.le_of_ble_eq_true rfl, Nat.le_of_ble_eq_true rfl⟩ ⟨Nat.zero_le _, Nat.zero_le _⟩ hl rfl (Nat.le_of_ble_eq_true rfl) dX6_piece_2 hP hD hS 0 6 rfl rfl rfl [0, 1, 2, 3, 4, 5, 6, 7, 8, 9, 10, 11] rfl rfl [(0, w6 aM K s_2)] rfl rfl rfl (List.forall_mem_cons.mpr ⟨Nat.le_of_ble_eq_true rfl, (fun _ h => absurd h List.not_mem_nil)⟩) (fun H locs hP hD hS => ?_)
  refine W.eq (g2 := F0 m 5 ls [.int v_1]) rfl ?_
  refine lv_istore_n (lv' := [(3, .int v_1), (0, .ref (aM 0)), (1, .int p1), (2, .int p2)]) hx hb dX6_piece_5 rfl hl (by decide) rfl (fun ls hl => ?_)
  refine lv_iload_n hx hb dX6_piece_6 rfl (lv_at hl 0 rfl) ?_
  refine lv_iconst (v := (4 : Int32)) hx hb dX6_piece_7 (by decide) ?_
  refine lv_icmp_ge (tgt := 22) hx hb dX6_piece_8 (by decide) (fun c9 => ?_) (fun c9 => ?_)
  · replace h := xi_t c9 h
    refine lv_iconst (v := (0 : Int32)) hx hb dX6_piece_22 (by decide) ?_
    exact kX6_piece_23 C _ _ _ _ _ _ h _ _ _ hP hD hS (lv_sub hl [1, 2, 3, 0] rfl)
  · replace h := xi_f c9 h
    refine lv_aload_n hx hb dX6_piece_11 rfl (lv_at hl 1 rfl) ?_
    refine va_get (D := D) (ci := 6) (v := .ref (aM 5)) (C := RX6) (T := TX6) (N := 21) hx hb hts xu_X6 hown hK hP 0 rfl rfl 10 (by decide) (hts _ xw_517) (fun _ h9 => h9) rfl dX6_piece_12 ?_
    refine lv_iconst (v := (5 : Int32)) hx hb dX6_piece_15 (by decide) ?_
    refine lv_iload_n hx hb dX6_piece_16 rfl (lv_at hl 0 rfl) ?_
    refine lv_iadd hx hb dX6_piece_17 ?_
    obtain ⟨hi9, h⟩ := xi_g h
    refine va_iald hx hb hK hP 5 0 rfl rfl hi9 dX6_piece_18 ?_
    refine lv_goto (tgt := 23) hx hb dX6_piece_19 (by decide) ?_
    exact kX6_piece_23 C _ _ _ _ _ _ h _ _ _ hP hD hS (lv_sub hl [1, 2, 3, 0] rfl)
abbrev oX6_commands (aM : Nat → Nat) (K : Nat → ClassId) (q : Unit × (S6)) : xO := .inr (none, w6 aM K q.2)
def fX6_commands_107 (rec2 : S6 → Int32 → Int32 → Option (Unit × (S6))) (M : S6) (x1 : Int32) (x2 : Int32) (x4 : Int32) (x5 : Int32) : Option (Unit × (S6)) := (if x1 ≤ (x2 + x4) then rec2 M x1 (x2 + x4) else (if M.2.2.2.2.1 = 0 then xbnd0 (fX6_piece M x5 (x1 - (x2 + x4))) (fun v_13 s_14 => rec2 s_14 x1 ((x2 + x4) + v_13)) else rec2 M x1 (x2 + x4)))
def fX6_commands_83 (rec2 : S6 → Int32 → Int32 → Option (Unit × (S6))) : Nat → S6 → Int32 → Int32 → Int32 → Int32 → Int32 → Option (Unit × (S6))
  | 0 => fun _ _ _ _ _ _ => none
  | fu + 1 => fun M x1 x2 x4 x5 x6 => (if x4 ≤ x6 then fX6_commands_107 rec2 M x1 x2 x4 x5 else (if M.2.2.2.2.1 = 0 then xbnd0 (fX6_readLetter M) (fun v_11 s_12 => fX6_commands_83 rec2 fu s_12 x1 x2 x4 x5 (x6 + (1 : Int32))) else fX6_commands_107 rec2 M x1 x2 x4 x5))
def fX6_commands_77 (rec2 : S6 → Int32 → Int32 → Option (Unit × (S6))) (M : S6) (x1 : Int32) (x2 : Int32) (x4 : Int32) (x5 : Int32) (t1 : Int32) : Option (Unit × (S6)) := (if t1 = 0 ∨ t1 = 1 then fX6_commands_83 rec2 xF (M.1, M.2.1, M.2.2.1, M.2.2.2.1, t1, M.2.2.2.2.2.1, M.2.2.2.2.2.2.1, M.2.2.2.2.2.2.2.1, M.2.2.2.2.2.2.2.2.1, M.2.2.2.2.2.2.2.2.2.1, M.2.2.2.2.2.2.2.2.2.2.1, M.2.2.2.2.2.2.2.2.2.2.2.1, M.2.2.2.2.2.2.2.2.2.2.2.2.1, M.2.2.2.2.2.2.2.2.2.2.2.2.2.1, M.2.2.2.2.2.2.2.2.2.2.2.2.2.2.1, M.2.2.2.2.2.2.2.2.2.2.2.2.2.2.2.1, M.2.2.2.2.2.2.2.2.2.2.2.2.2.2.2.2.1, M.2.2.2.2.2.2.2.2.2.2.2.2.2.2.2.2.2.1, M.2.2.2.2.2.2.2.2.2.2.2.2.2.2.2.2.2.2.1, M.2.2.2.2.2.2.2.2.2.2.2.2.2.2.2.2.2.2.2.1, M.2.2.2.2.2.2.2.2.2.2.2.2.2.2.2.2.2.2.2.2) x1 x2 x4 x5 (0 : Int32) else none)
def fX6_commands_2 : Nat → S6 → Int32 → Int32 → Option (Unit × (S6))
  | 0 => fun _ _ _ => none
  | fu + 1 => fun M x1 x2 => (if x1 ≤ x2 then some ((), M) else (if M.2.2.2.2.1 = 0 then xbnd0 (fX6_symbol M (4 : Int32)) (fun v_1 s_2 => xbnd0 (fX6_baseOf s_2 (v_1 / (4 : Int32)) (0 : Int32)) (fun v_3 s_4 => xbnd0 (fX6_number s_4 (v_1 / (4 : Int32))) (fun v_5 s_6 => xbnd0 (fX6_baseOf s_6 (v_1 - v_1 / (4 : Int32) * (4 : Int32)) (2 : Int32)) (fun v_7 s_8 => xbnd0 (fX6_number s_8 (v_1 - v_1 / (4 : Int32) * (4 : Int32))) (fun v_9 s_10 => (if s_10.2.2.2.2.1 = 0 then (if (x2 + (v_3 + v_5)) ≤ x1 then fX6_commands_77 (fX6_commands_2 fu) s_10 x1 x2 (v_3 + v_5) (v_7 + v_9) (0 : Int32) else fX6_commands_77 (fX6_commands_2 fu) s_10 x1 x2 (v_3 + v_5) (v_7 + v_9) (1 : Int32)) else fX6_commands_77 (fX6_commands_2 fu) s_10 x1 x2 (v_3 + v_5) (v_7 + v_9) (1 : Int32))))))) else some ((), M)))
def fX6_commands (M : S6) (p1 : Int32) : Option (Unit × (S6)) := fX6_commands_2 xF M p1 (0 : Int32)
set_option maxHeartbeats 4000000 in
set_option maxRecDepth 100000 in
theorem kX6_commands_107 {p : Program} {l : Launch} {e : Env} {s : State} {m : MethodId} {args : Array Value} {below : List Frame} {meth : Method} {c : Code} {D : va_G} {K : Nat → ClassId} {A : Nat → Prop} {aM : Nat → Nat} (C : xC p s m args meth c cX6_commands 7 none yX6_commands D K A []) (rec2 : S6 → Int32 → Int32 → Option (Unit × (S6))) (hrec2 : ∀ (M : S6) (x1 : Int32) (x2 : Int32) (r : Unit × (S6)), rec2 M x1 x2 = some r → ∀ (H : Heap) (locs : List Loc) (ls : Array Slot), va_P D vwCl (w6 aM K M) H → va_D A (w6 aM K M) → va_S A s.heap H locs → lv_has ls 7 [(0, .ref (aM 0)), (1, .int x1), (2, .int x2)] → W p l e (xR 4 92 (oX6_commands aM K r)) s m args below meth c H locs 0 0 (xQ below args s D K A (oX6_commands aM K r)) (F0 m 2 ls [])) : ∀ (M : S6) (x1 : Int32) (x2 : Int32) (x4 : Int32) (x5 : Int32) (r : Unit × (S6)), fX6_commands_107  rec2 M x1 x2 x4 x5 = some r → ∀ (H : Heap) (locs : List Loc) (ls : Array Slot), va_P D vwCl (w6 aM K M) H → va_D A (w6 aM K M) → va_S A s.heap H locs → lv_has ls 7 [(0, .ref (aM 0)), (1, .int x1), (2, .int x2), (4, .int x4), (5, .int x5)] → W p l e (xR 4 92 (oX6_commands aM K r)) s m args below meth c H locs 0 0 (xQ below args s D K A (oX6_commands aM K r)) (F0 m 107 ls []) := by
  obtain ⟨hx, hb, hr, hml, hown, hK, hts, hA, hG, hlk, hte, hnm⟩ := id C
  intro M x1 x2 x4 x5 r h H locs ls hP hD hS hl
  replace h : (if x1 ≤ (x2 + x4) then rec2 M x1 (x2 + x4) else (if M.2.2.2.2.1 = 0 then xbnd0 (fX6_piece M x5 (x1 - (x2 + x4))) (fun v_13 s_14 => rec2 s_14 x1 ((x2 + x4) + v_13)) else rec2 M x1 (x2 + x4))) = some r := h
  refine lv_iload_n hx hb dX6_commands_107 rfl (lv_at hl 2 rfl) ?_
  refine lv_iload hx hb dX6_commands_108 (lv_at hl 3 rfl) ?_
  refine lv_iadd hx hb dX6_commands_110 ?_
  refine lv_istore_n (lv' := [(2, .int (x2 + x4)), (0, .ref (aM 0)), (1, .int x1), (4, .int x4), (5, .int x5)]) hx hb dX6_commands_111 rfl hl (by decide) rfl (fun ls hl => ?_)
  refine lv_iload_n hx hb dX6_commands_112 rfl (lv_at hl 0 rfl) ?_
  refine lv_iload_n hx hb dX6_commands_113 rfl (lv_at hl 2 rfl) ?_
  refine lv_icmp_ge (tgt := 136) hx hb dX6_commands_114 (by decide) (fun c9 => ?_) (fun c9 => ?_)
  · replace h := xi_t c9 h
    refine lv_goto (tgt := 2) hx hb dX6_commands_136 (by decide) ?_
    exact hrec2 _ _ _ _ h _ _ _ hP hD hS (lv_sub hl [1, 2, 0] rfl)
  · replace h := xi_f c9 h
    refine lv_aload_n hx hb dX6_commands_117 rfl (lv_at hl 1 rfl) ?_
    refine va_get (D := D) (ci := 6) (v := .int M.2.2.2.2.1) (C := RX6) (T := TX6) (N := 21) hx hb hts xu_X6 hown hK hP 0 rfl rfl 4 (by decide) (hts _ xw_511) (fun _ h9 => h9) rfl dX6_commands_118 ?_
    refine lv_if_ne (tgt := 136) hx hb dX6_commands_121 (by decide) (fun c9 => ?_) (fun c9 => ?_)
    · replace h := xi_f c9 h
      refine lv_goto (tgt := 2) hx hb dX6_commands_136 (by decide) ?_
      exact hrec2 _ _ _ _ h _ _ _ hP hD hS (lv_sub hl [1, 2, 0] rfl)
    · replace h := xi_t c9 h
      refine lv_iload_n hx hb dX6_commands_124 rfl (lv_at hl 0 rfl) ?_
      refine lv_aload_n hx hb dX6_commands_125 rfl (lv_at hl 1 rfl) ?_
      refine lv_iload hx hb dX6_commands_126 (lv_at hl 4 rfl) ?_
      refine lv_iload_n hx hb dX6_commands_128 rfl (lv_at hl 2 rfl) ?_
      refine lv_iload_n hx hb dX6_commands_129 rfl (lv_at hl 0 rfl) ?_
      refine lv_isub hx hb dX6_commands_130 ?_
      obtain ⟨v_13, s_14, hc9, h⟩ := xi_d h
      refine xc_V (As := [.int x5, .int (x1 - (x2 + x4))]) (ws' := w6 aM K s_14) C (mX6_piece l D K aM _ _ _ _ _ hc9) xgi_X6_129 xd_X6_piece ⟨Nat.le_of_ble_eq_true rfl, Nat.le_of_ble_eq_true rfl⟩ ⟨Nat.zero_le _, Nat.zero_le _⟩ hl rfl (Nat.le_of_ble_eq_true rfl) dX6_commands_131 hP hD hS 0 6 rfl rfl rfl [0, 1, 2, 3, 4, 5, 6, 7, 8, 9, 10, 11] rfl rfl [(0, w6 aM K s_14)] rfl rfl rfl (List.forall_mem_cons.mpr ⟨Nat.le_of_ble_eq_true rfl, (fun _ h => absurd h List.not_mem_nil)⟩) (fun H locs hP hD hS => ?_)
      refine W.eq (g2 := F0 m 134 ls [.int v_13, .int (x2 + x4)]) rfl ?_
      refine lv_iadd hx hb dX6_commands_134 ?_
      refine lv_istore_n (lv' := [(2, .int ((x2 + x4) + v_13)), (0, .ref (aM 0)), (1, .int x1), (4, .int x4), (5, .int x5)]) hx hb dX6_commands_135 rfl hl (by decide) rfl (fun ls hl => ?_)
      refine lv_goto (tgt := 2) hx hb dX6_commands_136 (by decide) ?_
      exact hrec2 _ _ _ _ h _ _ _ hP hD hS (lv_sub hl [1, 2, 0] rfl)
set_option maxHeartbeats 4000000 in
set_option maxRecDepth 100000 in
theorem kX6_commands_83 {p : Program} {l : Launch} {e : Env} {s : State} {m : MethodId} {args : Array Value} {below : List Frame} {meth : Method} {c : Code} {D : va_G} {K : Nat → ClassId} {A : Nat → Prop} {aM : Nat → Nat} (C : xC p s m args meth c cX6_commands 7 none yX6_commands D K A []) (rec2 : S6 → Int32 → Int32 → Option (Unit × (S6))) (hrec2 : ∀ (M : S6) (x1 : Int32) (x2 : Int32) (r : Unit × (S6)), rec2 M x1 x2 = some r → ∀ (H : Heap) (locs : List Loc) (ls : Array Slot), va_P D vwCl (w6 aM K M) H → va_D A (w6 aM K M) → va_S A s.heap H locs → lv_has ls 7 [(0, .ref (aM 0)), (1, .int x1), (2, .int x2)] → W p l e (xR 4 92 (oX6_commands aM K r)) s m args below meth c H locs 0 0 (xQ below args s D K A (oX6_commands aM K r)) (F0 m 2 ls [])) : ∀ fu : Nat, ∀ (M : S6) (x1 : Int32) (x2 : Int32) (x4 : Int32) (x5 : Int32) (x6 : Int32) (r : Unit × (S6)), fX6_commands_83  rec2 fu M x1 x2 x4 x5 x6 = some r → ∀ (H : Heap) (locs : List Loc) (ls : Array Slot), va_P D vwCl (w6 aM K M) H → va_D A (w6 aM K M) → va_S A s.heap H locs → lv_has ls 7 [(0, .ref (aM 0)), (1, .int x1), (2, .int x2), (4, .int x4), (5, .int x5), (6, .int x6)] → W p l e (xR 4 92 (oX6_commands aM K r)) s m args below meth c H locs 0 0 (xQ below args s D K A (oX6_commands aM K r)) (F0 m 83 ls []) := by
  obtain ⟨hx, hb, hr, hml, hown, hK, hts, hA, hG, hlk, hte, hnm⟩ := id C
  intro fu
  induction fu with
  | zero =>
    intro M x1 x2 x4 x5 x6 r h
    exact nomatch (show (none : Option (Unit × (S6))) = some r from h)
  | succ fu ih =>
    intro M x1 x2 x4 x5 x6 r h H locs ls hP hD hS hl
    replace h : (if x4 ≤ x6 then fX6_commands_107 rec2 M x1 x2 x4 x5 else (if M.2.2.2.2.1 = 0 then xbnd0 (fX6_readLetter M) (fun v_11 s_12 => fX6_commands_83 rec2 fu s_12 x1 x2 x4 x5 (x6 + (1 : Int32))) else fX6_commands_107 rec2 M x1 x2 x4 x5)) = some r := h
    refine lv_iload hx hb dX6_commands_83 (lv_at hl 5 rfl) ?_
    refine lv_iload hx hb dX6_commands_85 (lv_at hl 3 rfl) ?_
    refine lv_icmp_ge (tgt := 107) hx hb dX6_commands_87 (by decide) (fun c9 => ?_) (fun c9 => ?_)
    · replace h := xi_t c9 h
      exact kX6_commands_107 C _ hrec2 _ _ _ _ _ _ h _ _ _ hP hD hS (lv_sub hl [0, 1, 2, 3, 4] rfl)
    · replace h := xi_f c9 h
      refine lv_aload_n hx hb dX6_commands_90 rfl (lv_at hl 0 rfl) ?_
      refine va_get (D := D) (ci := 6) (v := .int M.2.2.2.2.1) (C := RX6) (T := TX6) (N := 21) hx hb hts xu_X6 hown hK hP 0 rfl rfl 4 (by decide) (hts _ xw_511) (fun _ h9 => h9) rfl dX6_commands_91 ?_
      refine lv_if_ne (tgt := 107) hx hb dX6_commands_94 (by decide) (fun c9 => ?_) (fun c9 => ?_)
      · replace h := xi_f c9 h
        exact kX6_commands_107 C _ hrec2 _ _ _ _ _ _ h _ _ _ hP hD hS (lv_sub hl [0, 1, 2, 3, 4] rfl)
      · replace h := xi_t c9 h
        refine lv_aload_n hx hb dX6_commands_97 rfl (lv_at hl 0 rfl) ?_
        obtain ⟨v_11, s_12, hc9, h⟩ := xi_d h
        refine xc_V (As := []) (ws' := w6 aM K s_12) C (mX6_readLetter l D K aM _ _ _ hc9) xgi_X6_126 xd_X6_readLetter ⟨Nat.le_of_ble_eq_true rfl, Nat.le_of_ble_eq_true rfl⟩ ⟨Nat.zero_le _, Nat.zero_le _⟩ hl rfl (Nat.le_of_ble_eq_true rfl) dX6_commands_98 hP hD hS 0 6 rfl rfl rfl [0, 1, 2, 3, 4, 5, 6, 7, 8, 9, 10, 11] rfl rfl [(0, w6 aM K s_12)] rfl rfl rfl (List.forall_mem_cons.mpr ⟨Nat.le_of_ble_eq_true rfl, (fun _ h => absurd h List.not_mem_nil)⟩) (fun H locs hP hD hS => ?_)
        refine W.eq (g2 := F0 m 101 ls []) rfl ?_
        refine lv_iinc (v := (x6 + (1 : Int32))) (lv' := [(6, .int (x6 + (1 : Int32))), (0, .ref (aM 0)), (1, .int x1), (2, .int x2), (4, .int x4), (5, .int x5)]) hx hb dX6_commands_101 hl (k := 5) rfl (by rfl) (by decide) rfl (fun ls hl => ?_)
        refine lv_goto (tgt := 83) hx hb dX6_commands_104 (by decide) ?_
        exact ih _ _ _ _ _ _ _ h _ _ _ hP hD hS (lv_sub hl [1, 2, 3, 4, 5, 0] rfl)
set_option maxHeartbeats 4000000 in
set_option maxRecDepth 100000 in
theorem kX6_commands_77 {p : Program} {l : Launch} {e : Env} {s : State} {m : MethodId} {args : Array Value} {below : List Frame} {meth : Method} {c : Code} {D : va_G} {K : Nat → ClassId} {A : Nat → Prop} {aM : Nat → Nat} (C : xC p s m args meth c cX6_commands 7 none yX6_commands D K A []) (rec2 : S6 → Int32 → Int32 → Option (Unit × (S6))) (hrec2 : ∀ (M : S6) (x1 : Int32) (x2 : Int32) (r : Unit × (S6)), rec2 M x1 x2 = some r → ∀ (H : Heap) (locs : List Loc) (ls : Array Slot), va_P D vwCl (w6 aM K M) H → va_D A (w6 aM K M) → va_S A s.heap H locs → lv_has ls 7 [(0, .ref (aM 0)), (1, .int x1), (2, .int x2)] → W p l e (xR 4 92 (oX6_commands aM K r)) s m args below meth c H locs 0 0 (xQ below args s D K A (oX6_commands aM K r)) (F0 m 2 ls [])) : ∀ (M : S6) (x1 : Int32) (x2 : Int32) (x4 : Int32) (x5 : Int32) (t1 : Int32) (r : Unit × (S6)), fX6_commands_77  rec2 M x1 x2 x4 x5 t1 = some r → ∀ (H : Heap) (locs : List Loc) (ls : Array Slot), va_P D vwCl (w6 aM K M) H → va_D A (w6 aM K M) → va_S A s.heap H locs → lv_has ls 7 [(0, .ref (aM 0)), (1, .int x1), (2, .int x2), (4, .int x4), (5, .int x5)] → W p l e (xR 4 92 (oX6_commands aM K r)) s m args below meth c H locs 0 0 (xQ below args s D K A (oX6_commands aM K r)) (F0 m 77 ls [.int t1, .ref (aM 0)]) := by
  obtain ⟨hx, hb, hr, hml, hown, hK, hts, hA, hG, hlk, hte, hnm⟩ := id C
  intro M x1 x2 x4 x5 t1 r h H locs ls hP hD hS hl
  replace h : (if t1 = 0 ∨ t1 = 1 then fX6_commands_83 rec2 xF (M.1, M.2.1, M.2.2.1, M.2.2.2.1, t1, M.2.2.2.2.2.1, M.2.2.2.2.2.2.1, M.2.2.2.2.2.2.2.1, M.2.2.2.2.2.2.2.2.1, M.2.2.2.2.2.2.2.2.2.1, M.2.2.2.2.2.2.2.2.2.2.1, M.2.2.2.2.2.2.2.2.2.2.2.1, M.2.2.2.2.2.2.2.2.2.2.2.2.1, M.2.2.2.2.2.2.2.2.2.2.2.2.2.1, M.2.2.2.2.2.2.2.2.2.2.2.2.2.2.1, M.2.2.2.2.2.2.2.2.2.2.2.2.2.2.2.1, M.2.2.2.2.2.2.2.2.2.2.2.2.2.2.2.2.1, M.2.2.2.2.2.2.2.2.2.2.2.2.2.2.2.2.2.1, M.2.2.2.2.2.2.2.2.2.2.2.2.2.2.2.2.2.2.1, M.2.2.2.2.2.2.2.2.2.2.2.2.2.2.2.2.2.2.2.1, M.2.2.2.2.2.2.2.2.2.2.2.2.2.2.2.2.2.2.2.2) x1 x2 x4 x5 (0 : Int32) else none) = some r := h
  obtain ⟨hz9, h⟩ := xi_b h
  refine va_put (D := D) (ci := 6) (v := .int t1) (ty := .boolean) (C := RX6) (T := TX6) (N := 21) hx hb hts xu_X6 tyX6 tyX6_ok nmX6 hown hK hP hD hS 0 rfl rfl 4 (by decide) (hts _ xw_511) (fun _ h9 => h9) rfl (by decide +kernel) hz9.1 hz9.2 (Nat.le_of_ble_eq_true rfl) dX6_commands_77 (fun H locs hP hD hS => ?_)
  have hP : va_P D vwCl (w6 aM K (M.1, M.2.1, M.2.2.1, M.2.2.2.1, t1, M.2.2.2.2.2.1, M.2.2.2.2.2.2.1, M.2.2.2.2.2.2.2.1, M.2.2.2.2.2.2.2.2.1, M.2.2.2.2.2.2.2.2.2.1, M.2.2.2.2.2.2.2.2.2.2.1, M.2.2.2.2.2.2.2.2.2.2.2.1, M.2.2.2.2.2.2.2.2.2.2.2.2.1, M.2.2.2.2.2.2.2.2.2.2.2.2.2.1, M.2.2.2.2.2.2.2.2.2.2.2.2.2.2.1, M.2.2.2.2.2.2.2.2.2.2.2.2.2.2.2.1, M.2.2.2.2.2.2.2.2.2.2.2.2.2.2.2.2.1, M.2.2.2.2.2.2.2.2.2.2.2.2.2.2.2.2.2.1, M.2.2.2.2.2.2.2.2.2.2.2.2.2.2.2.2.2.2.1, M.2.2.2.2.2.2.2.2.2.2.2.2.2.2.2.2.2.2.2.1, M.2.2.2.2.2.2.2.2.2.2.2.2.2.2.2.2.2.2.2.2)) H := hP
  have hD : va_D A (w6 aM K (M.1, M.2.1, M.2.2.1, M.2.2.2.1, t1, M.2.2.2.2.2.1, M.2.2.2.2.2.2.1, M.2.2.2.2.2.2.2.1, M.2.2.2.2.2.2.2.2.1, M.2.2.2.2.2.2.2.2.2.1, M.2.2.2.2.2.2.2.2.2.2.1, M.2.2.2.2.2.2.2.2.2.2.2.1, M.2.2.2.2.2.2.2.2.2.2.2.2.1, M.2.2.2.2.2.2.2.2.2.2.2.2.2.1, M.2.2.2.2.2.2.2.2.2.2.2.2.2.2.1, M.2.2.2.2.2.2.2.2.2.2.2.2.2.2.2.1, M.2.2.2.2.2.2.2.2.2.2.2.2.2.2.2.2.1, M.2.2.2.2.2.2.2.2.2.2.2.2.2.2.2.2.2.1, M.2.2.2.2.2.2.2.2.2.2.2.2.2.2.2.2.2.2.1, M.2.2.2.2.2.2.2.2.2.2.2.2.2.2.2.2.2.2.2.1, M.2.2.2.2.2.2.2.2.2.2.2.2.2.2.2.2.2.2.2.2)) := hD
  refine lv_iconst (v := (0 : Int32)) hx hb dX6_commands_80 (by decide) ?_
  refine lv_istore (lv' := [(6, .int (0 : Int32)), (0, .ref (aM 0)), (1, .int x1), (2, .int x2), (4, .int x4), (5, .int x5)]) hx hb dX6_commands_81 hl (by decide) rfl (fun ls hl => ?_)
  exact kX6_commands_83 C _ hrec2 _ _ _ _ _ _ _ _ h _ _ _ hP hD hS (lv_sub hl [1, 2, 3, 4, 5, 0] rfl)
set_option maxHeartbeats 4000000 in
set_option maxRecDepth 100000 in
theorem kX6_commands_2 {p : Program} {l : Launch} {e : Env} {s : State} {m : MethodId} {args : Array Value} {below : List Frame} {meth : Method} {c : Code} {D : va_G} {K : Nat → ClassId} {A : Nat → Prop} {aM : Nat → Nat} (C : xC p s m args meth c cX6_commands 7 none yX6_commands D K A []) : ∀ fu : Nat, ∀ (M : S6) (x1 : Int32) (x2 : Int32) (r : Unit × (S6)), fX6_commands_2 fu M x1 x2 = some r → ∀ (H : Heap) (locs : List Loc) (ls : Array Slot), va_P D vwCl (w6 aM K M) H → va_D A (w6 aM K M) → va_S A s.heap H locs → lv_has ls 7 [(0, .ref (aM 0)), (1, .int x1), (2, .int x2)] → W p l e (xR 4 92 (oX6_commands aM K r)) s m args below meth c H locs 0 0 (xQ below args s D K A (oX6_commands aM K r)) (F0 m 2 ls []) := by
  obtain ⟨hx, hb, hr, hml, hown, hK, hts, hA, hG, hlk, hte, hnm⟩ := id C
  intro fu
  induction fu with
  | zero =>
    intro M x1 x2 r h
    exact nomatch (show (none : Option (Unit × (S6))) = some r from h)
  | succ fu ih =>
    intro M x1 x2 r h H locs ls hP hD hS hl
    replace h : (if x1 ≤ x2 then some ((), M) else (if M.2.2.2.2.1 = 0 then xbnd0 (fX6_symbol M (4 : Int32)) (fun v_1 s_2 => xbnd0 (fX6_baseOf s_2 (v_1 / (4 : Int32)) (0 : Int32)) (fun v_3 s_4 => xbnd0 (fX6_number s_4 (v_1 / (4 : Int32))) (fun v_5 s_6 => xbnd0 (fX6_baseOf s_6 (v_1 - v_1 / (4 : Int32) * (4 : Int32)) (2 : Int32)) (fun v_7 s_8 => xbnd0 (fX6_number s_8 (v_1 - v_1 / (4 : Int32) * (4 : Int32))) (fun v_9 s_10 => (if s_10.2.2.2.2.1 = 0 then (if (x2 + (v_3 + v_5)) ≤ x1 then fX6_commands_77 (fX6_commands_2 fu) s_10 x1 x2 (v_3 + v_5) (v_7 + v_9) (0 : Int32) else fX6_commands_77 (fX6_commands_2 fu) s_10 x1 x2 (v_3 + v_5) (v_7 + v_9) (1 : Int32)) else fX6_commands_77 (fX6_commands_2 fu) s_10 x1 x2 (v_3 + v_5) (v_7 + v_9) (1 : Int32))))))) else some ((), M))) = some r := h
    refine lv_iload_n hx hb dX6_commands_2 rfl (lv_at hl 2 rfl) ?_
    refine lv_iload_n hx hb dX6_commands_3 rfl (lv_at hl 1 rfl) ?_
    refine lv_icmp_ge (tgt := 139) hx hb dX6_commands_4 (by decide) (fun c9 => ?_) (fun c9 => ?_)
    · replace h := xi_t c9 h
      obtain rfl := Option.some.inj h
      exact xe_v C hP hD hS dX6_commands_139
    · replace h := xi_f c9 h
      refine lv_aload_n hx hb dX6_commands_7 rfl (lv_at hl 0 rfl) ?_
      refine va_get (D := D) (ci := 6) (v := .int M.2.2.2.2.1) (C := RX6) (T := TX6) (N := 21) hx hb hts xu_X6 hown hK hP 0 rfl rfl 4 (by decide) (hts _ xw_511) (fun _ h9 => h9) rfl dX6_commands_8 ?_
      refine lv_if_ne (tgt := 139) hx hb dX6_commands_11 (by decide) (fun c9 => ?_) (fun c9 => ?_)
      · replace h := xi_f c9 h
        obtain rfl := Option.some.inj h
        exact xe_v C hP hD hS dX6_commands_139
      · replace h := xi_t c9 h
        refine lv_aload_n hx hb dX6_commands_14 rfl (lv_at hl 0 rfl) ?_
        refine lv_iconst (v := (4 : Int32)) hx hb dX6_commands_15 (by decide) ?_
        obtain ⟨v_1, s_2, hc9, h⟩ := xi_d h
        refine xc_V (As := [.int (4 : Int32)]) (ws' := w6 aM K s_2) C (mX6_symbol l D K aM _ _ _ _ hc9) xgi_X6_106 xd_X6_symbol ⟨Nat.le_of_ble_eq_true rfl, Nat.le_of_ble_eq_true rfl⟩ ⟨Nat.zero_le _, Nat.zero_le _⟩ hl rfl (Nat.le_of_ble_eq_true rfl) dX6_commands_16 hP hD hS 0 6 rfl rfl rfl [0, 1, 2, 3, 4, 5, 6, 7, 8, 9, 10, 11] rfl rfl [(0, w6 aM K s_2)] rfl rfl rfl (List.forall_mem_cons.mpr ⟨Nat.le_of_ble_eq_true rfl, (fun _ h => absurd h List.not_mem_nil)⟩) (fun H locs hP hD hS => ?_)
        refine W.eq (g2 := F0 m 19 ls [.int v_1]) rfl ?_
        refine lv_istore_n (lv' := [(3, .int v_1), (0, .ref (aM 0)), (1, .int x1), (2, .int x2)]) hx hb dX6_commands_19 rfl hl (by decide) rfl (fun ls hl => ?_)
        refine lv_aload_n hx hb dX6_commands_20 rfl (lv_at hl 1 rfl) ?_
        refine lv_iload_n hx hb dX6_commands_21 rfl (lv_at hl 0 rfl) ?_
        refine lv_iconst (v := (4 : Int32)) hx hb dX6_commands_22 (by decide) ?_
        refine lv_idiv hx hb dX6_commands_23 (by decide) ?_
        refine lv_iconst (v := (0 : Int32)) hx hb dX6_commands_24 (by decide) ?_
        obtain ⟨v_3, s_4, hc9, h⟩ := xi_d h
        refine xc_V (As := [.int (v_1 / (4 : Int32)), .int (0 : Int32)]) (ws' := w6 aM K s_4) C (mX6_baseOf l D K aM _ _ _ _ _ hc9) xgi_X6_123 xd_X6_baseOf ⟨Nat.le_of_ble_eq_true rfl, Nat.le_of_ble_eq_true rfl⟩ ⟨Nat.zero_le _, Nat.zero_le _⟩ hl rfl (Nat.le_of_ble_eq_true rfl) dX6_commands_25 hP hD hS 0 6 rfl rfl rfl [0, 1, 2, 3, 4, 5, 6, 7, 8, 9, 10, 11] rfl rfl [(0, w6 aM K s_4)] rfl rfl rfl (List.forall_mem_cons.mpr ⟨Nat.le_of_ble_eq_true rfl, (fun _ h => absurd h List.not_mem_nil)⟩) (fun H locs hP hD hS => ?_)
        refine W.eq (g2 := F0 m 28 ls [.int v_3]) rfl ?_
        refine lv_aload_n hx hb dX6_commands_28 rfl (lv_at hl 1 rfl) ?_
        refine lv_iload_n hx hb dX6_commands_29 rfl (lv_at hl 0 rfl) ?_
        refine lv_iconst (v := (4 : Int32)) hx hb dX6_commands_30 (by decide) ?_
        refine lv_idiv hx hb dX6_commands_31 (by decide) ?_
        obtain ⟨v_5, s_6, hc9, h⟩ := xi_d h
        refine xc_V (As := [.int (v_1 / (4 : Int32))]) (ws' := w6 aM K s_6) C (mX6_number l D K aM _ _ _ _ hc9) xgi_X6_66 xd_X6_number ⟨Nat.le_of_ble_eq_true rfl, Nat.le_of_ble_eq_true rfl⟩ ⟨Nat.zero_le _, Nat.zero_le _⟩ hl rfl (Nat.le_of_ble_eq_true rfl) dX6_commands_32 hP hD hS 0 6 rfl rfl rfl [0, 1, 2, 3, 4, 5, 6, 7, 8, 9, 10, 11] rfl rfl [(0, w6 aM K s_6)] rfl rfl rfl (List.forall_mem_cons.mpr ⟨Nat.le_of_ble_eq_true rfl, (fun _ h => absurd h List.not_mem_nil)⟩) (fun H locs hP hD hS => ?_)
        refine W.eq (g2 := F0 m 35 ls [.int v_5, .int v_3]) rfl ?_
        refine lv_iadd hx hb dX6_commands_35 ?_
        refine lv_istore (lv' := [(4, .int (v_3 + v_5)), (3, .int v_1), (0, .ref (aM 0)), (1, .int x1), (2, .int x2)]) hx hb dX6_commands_36 hl (by decide) rfl (fun ls hl => ?_)
        refine lv_aload_n hx hb dX6_commands_38 rfl (lv_at hl 2 rfl) ?_
        refine lv_iload_n hx hb dX6_commands_39 rfl (lv_at hl 1 rfl) ?_
        refine lv_iconst (v := (4 : Int32)) hx hb dX6_commands_40 (by decide) ?_
        refine lv_irem hx hb dX6_commands_41 (by decide) ?_
        refine lv_iconst (v := (2 : Int32)) hx hb dX6_commands_42 (by decide) ?_
        obtain ⟨v_7, s_8, hc9, h⟩ := xi_d h
        refine xc_V (As := [.int (v_1 - v_1 / (4 : Int32) * (4 : Int32)), .int (2 : Int32)]) (ws' := w6 aM K s_8) C (mX6_baseOf l D K aM _ _ _ _ _ hc9) xgi_X6_123 xd_X6_baseOf ⟨Nat.le_of_ble_eq_true rfl, Nat.le_of_ble_eq_true rfl⟩ ⟨Nat.zero_le _, Nat.zero_le _⟩ hl rfl (Nat.le_of_ble_eq_true rfl) dX6_commands_43 hP hD hS 0 6 rfl rfl rfl [0, 1, 2, 3, 4, 5, 6, 7, 8, 9, 10, 11] rfl rfl [(0, w6 aM K s_8)] rfl rfl rfl (List.forall_mem_cons.mpr ⟨Nat.le_of_ble_eq_true rfl, (fun _ h => absurd h List.not_mem_nil)⟩) (fun H locs hP hD hS => ?_)
        refine W.eq (g2 := F0 m 46 ls [.int v_7]) rfl ?_
        refine lv_aload_n hx hb dX6_commands_46 rfl (lv_at hl 2 rfl) ?_
        refine lv_iload_n hx hb dX6_commands_47 rfl (lv_at hl 1 rfl) ?_
        refine lv_iconst (v := (4 : Int32)) hx hb dX6_commands_48 (by decide) ?_
        refine lv_irem hx hb dX6_commands_49 (by decide) ?_
        obtain ⟨v_9, s_10, hc9, h⟩ := xi_d h
        refine xc_V (As := [.int (v_1 - v_1 / (4 : Int32) * (4 : Int32))]) (ws' := w6 aM K s_10) C (mX6_number l D K aM _ _ _ _ hc9) xgi_X6_66 xd_X6_number ⟨Nat.le_of_ble_eq_true rfl, Nat.le_of_ble_eq_true rfl⟩ ⟨Nat.zero_le _, Nat.zero_le _⟩ hl rfl (Nat.le_of_ble_eq_true rfl) dX6_commands_50 hP hD hS 0 6 rfl rfl rfl [0, 1, 2, 3, 4, 5, 6, 7, 8, 9, 10, 11] rfl rfl [(0, w6 aM K s_10)] rfl rfl rfl (List.forall_mem_cons.mpr ⟨Nat.le_of_ble_eq_true rfl, (fun _ h => absurd h List.not_mem_nil)⟩) (fun H locs hP hD hS => ?_)
        refine W.eq (g2 := F0 m 53 ls [.int v_9, .int v_7]) rfl ?_
        refine lv_iadd hx hb dX6_commands_53 ?_
        refine lv_istore (lv' := [(5, .int (v_7 + v_9)), (4, .int (v_3 + v_5)), (3, .int v_1), (0, .ref (aM 0)), (1, .int x1), (2, .int x2)]) hx hb dX6_commands_54 hl (by decide) rfl (fun ls hl => ?_)
        refine lv_aload_n hx hb dX6_commands_56 rfl (lv_at hl 3 rfl) ?_
        refine lv_aload_n hx hb dX6_commands_57 rfl (lv_at hl 3 rfl) ?_
        refine va_get (D := D) (ci := 6) (v := .int s_10.2.2.2.2.1) (C := RX6) (T := TX6) (N := 21) hx hb hts xu_X6 hown hK hP 0 rfl rfl 4 (by decide) (hts _ xw_511) (fun _ h9 => h9) rfl dX6_commands_58 ?_
        refine lv_if_ne (tgt := 72) hx hb dX6_commands_61 (by decide) (fun c9 => ?_) (fun c9 => ?_)
        · replace h := xi_f c9 h
          refine lv_iconst (v := (1 : Int32)) hx hb dX6_commands_72 (by decide) ?_
          refine lv_goto (tgt := 77) hx hb dX6_commands_73 (by decide) ?_
          exact kX6_commands_77 C _ ih _ _ _ _ _ _ _ h _ _ _ hP hD hS (lv_sub hl [3, 4, 5, 1, 0] rfl)
        · replace h := xi_t c9 h
          refine lv_iload_n hx hb dX6_commands_64 rfl (lv_at hl 5 rfl) ?_
          refine lv_iload hx hb dX6_commands_65 (lv_at hl 1 rfl) ?_
          refine lv_iadd hx hb dX6_commands_67 ?_
          refine lv_iload_n hx hb dX6_commands_68 rfl (lv_at hl 4 rfl) ?_
          refine lv_icmp_le (tgt := 76) hx hb dX6_commands_69 (by decide) (fun c9 => ?_) (fun c9 => ?_)
          · replace h := xi_t c9 h
            refine lv_iconst (v := (0 : Int32)) hx hb dX6_commands_76 (by decide) ?_
            exact kX6_commands_77 C _ ih _ _ _ _ _ _ _ h _ _ _ hP hD hS (lv_sub hl [3, 4, 5, 1, 0] rfl)
          · replace h := xi_f c9 h
            refine lv_iconst (v := (1 : Int32)) hx hb dX6_commands_72 (by decide) ?_
            refine lv_goto (tgt := 77) hx hb dX6_commands_73 (by decide) ?_
            exact kX6_commands_77 C _ ih _ _ _ _ _ _ _ h _ _ _ hP hD hS (lv_sub hl [3, 4, 5, 1, 0] rfl)
set_option maxHeartbeats 4000000 in
set_option maxRecDepth 100000 in
theorem mX6_commands (l : Launch) (D : va_G) (K : Nat → ClassId) (aM : Nat → Nat) (sz : Nat) (M : S6) (p1 : Int32) (r : Unit × (S6)) (h : fX6_commands M p1 = some r) : xMet l yX6_commands cX6_commands 7 none 4 92 D K [.ref (aM 0), .int p1] sz (w6 aM K M) (oX6_commands aM K r) := by
  refine xm_of _ (by decide +kernel) (Nat.le_of_ble_eq_true rfl) (fun p e s m args below meth c A C hP hD ls hl => ?_)
  have hl : lv_has ls 7 [(0, .ref (aM 0)), (1, .int p1)] := hl
  have hS : va_S A s.heap s.heap [] := va_S.rf
  obtain ⟨hx, hb, hr, hml, hown, hK, hts, hA, hG, hlk, hte, hnm⟩ := id C
  replace h : fX6_commands_2 xF M p1 (0 : Int32) = some r := h
  refine lv_iconst (v := (0 : Int32)) hx hb dX6_commands_0 (by decide) ?_
  refine lv_istore_n (lv' := [(2, .int (0 : Int32)), (0, .ref (aM 0)), (1, .int p1)]) hx hb dX6_commands_1 rfl hl (by decide) rfl (fun ls hl => ?_)
  exact kX6_commands_2 C _ _ _ _ _ h _ _ _ hP hD hS (lv_sub hl [1, 2, 0] rfl)
abbrev oX6_block (aM : Nat → Nat) (K : Nat → ClassId) (q : Int32 × (S6)) : xO := .inr ((some (.int q.1)), w6 aM K q.2)
def fX6_block_121 (M : S6) (x1 : Int32) (x3 : Int32) (t0 : Int32) : Option (Int32 × (S6)) := (if M.2.2.2.2.1 = 0 then (if (0 : Int32) < 0 ∨ 9 ≤ ((0 : Int32)).toNatClampNeg then none else (if (0 : Int32) < 0 ∨ 9 ≤ ((0 : Int32)).toNatClampNeg then none else (if t0 = 0 then xbnd0 (fX6_readHead (M.1, M.2.1, M.2.2.1, M.2.2.2.1, M.2.2.2.2.1, M.2.2.2.2.2.1, M.2.2.2.2.2.2.1, M.2.2.2.2.2.2.2.1, M.2.2.2.2.2.2.2.2.1, M.2.2.2.2.2.2.2.2.2.1, (upd M.2.2.2.2.2.2.2.2.2.2.1 ((0 : Int32)).toNatClampNeg ((M.2.2.2.2.2.2.2.2.2.2.1 ((0 : Int32)).toNatClampNeg) + (1 : Int32))), M.2.2.2.2.2.2.2.2.2.2.2.1, M.2.2.2.2.2.2.2.2.2.2.2.2.1, M.2.2.2.2.2.2.2.2.2.2.2.2.2.1, M.2.2.2.2.2.2.2.2.2.2.2.2.2.2.1, M.2.2.2.2.2.2.2.2.2.2.2.2.2.2.2.1, M.2.2.2.2.2.2.2.2.2.2.2.2.2.2.2.2.1, M.2.2.2.2.2.2.2.2.2.2.2.2.2.2.2.2.2.1, M.2.2.2.2.2.2.2.2.2.2.2.2.2.2.2.2.2.2.1, M.2.2.2.2.2.2.2.2.2.2.2.2.2.2.2.2.2.2.2.1, M.2.2.2.2.2.2.2.2.2.2.2.2.2.2.2.2.2.2.2.2)) (fun v_9 s_10 => xbnd0 (fX6_commands s_10 x3) (fun v_11 s_12 => (if x1 = 0 ∨ x1 = 1 then some (x1, s_12) else none))) else xbnd0 (fX6_plain (M.1, M.2.1, M.2.2.1, M.2.2.2.1, M.2.2.2.2.1, M.2.2.2.2.2.1, M.2.2.2.2.2.2.1, M.2.2.2.2.2.2.2.1, M.2.2.2.2.2.2.2.2.1, M.2.2.2.2.2.2.2.2.2.1, (upd M.2.2.2.2.2.2.2.2.2.2.1 ((0 : Int32)).toNatClampNeg ((M.2.2.2.2.2.2.2.2.2.2.1 ((0 : Int32)).toNatClampNeg) + (1 : Int32))), M.2.2.2.2.2.2.2.2.2.2.2.1, M.2.2.2.2.2.2.2.2.2.2.2.2.1, M.2.2.2.2.2.2.2.2.2.2.2.2.2.1, M.2.2.2.2.2.2.2.2.2.2.2.2.2.2.1, M.2.2.2.2.2.2.2.2.2.2.2.2.2.2.2.1, M.2.2.2.2.2.2.2.2.2.2.2.2.2.2.2.2.1, M.2.2.2.2.2.2.2.2.2.2.2.2.2.2.2.2.2.1, M.2.2.2.2.2.2.2.2.2.2.2.2.2.2.2.2.2.2.1, M.2.2.2.2.2.2.2.2.2.2.2.2.2.2.2.2.2.2.2.1, M.2.2.2.2.2.2.2.2.2.2.2.2.2.2.2.2.2.2.2.2) x3) (fun v_13 s_14 => (if x1 = 0 ∨ x1 = 1 then some (x1, s_14) else none))))) else some ((1 : Int32), M))
def fX6_block_120 (M : S6) (x1 : Int32) (x3 : Int32) : Option (Int32 × (S6)) := fX6_block_121 M x1 x3 (0 : Int32)
def fX6_block_93 (M : S6) (x1 : Int32) (x3 : Int32) (t1 : Int32) : Option (Int32 × (S6)) := (if t1 = 0 ∨ t1 = 1 then (if t1 = 0 then (if x1 = 0 then xbnd0 (fX6_number (M.1, M.2.1, M.2.2.1, M.2.2.2.1, t1, M.2.2.2.2.2.1, M.2.2.2.2.2.2.1, M.2.2.2.2.2.2.2.1, M.2.2.2.2.2.2.2.2.1, M.2.2.2.2.2.2.2.2.2.1, M.2.2.2.2.2.2.2.2.2.2.1, M.2.2.2.2.2.2.2.2.2.2.2.1, M.2.2.2.2.2.2.2.2.2.2.2.2.1, M.2.2.2.2.2.2.2.2.2.2.2.2.2.1, M.2.2.2.2.2.2.2.2.2.2.2.2.2.2.1, M.2.2.2.2.2.2.2.2.2.2.2.2.2.2.2.1, M.2.2.2.2.2.2.2.2.2.2.2.2.2.2.2.2.1, M.2.2.2.2.2.2.2.2.2.2.2.2.2.2.2.2.2.1, M.2.2.2.2.2.2.2.2.2.2.2.2.2.2.2.2.2.2.1, M.2.2.2.2.2.2.2.2.2.2.2.2.2.2.2.2.2.2.2.1, M.2.2.2.2.2.2.2.2.2.2.2.2.2.2.2.2.2.2.2.2) (1 : Int32)) (fun v_7 s_8 => (if v_7 = (1 : Int32) then fX6_block_121 s_8 x1 x3 (1 : Int32) else fX6_block_120 s_8 x1 x3)) else fX6_block_120 (M.1, M.2.1, M.2.2.1, M.2.2.2.1, t1, M.2.2.2.2.2.1, M.2.2.2.2.2.2.1, M.2.2.2.2.2.2.2.1, M.2.2.2.2.2.2.2.2.1, M.2.2.2.2.2.2.2.2.2.1, M.2.2.2.2.2.2.2.2.2.2.1, M.2.2.2.2.2.2.2.2.2.2.2.1, M.2.2.2.2.2.2.2.2.2.2.2.2.1, M.2.2.2.2.2.2.2.2.2.2.2.2.2.1, M.2.2.2.2.2.2.2.2.2.2.2.2.2.2.1, M.2.2.2.2.2.2.2.2.2.2.2.2.2.2.2.1, M.2.2.2.2.2.2.2.2.2.2.2.2.2.2.2.2.1, M.2.2.2.2.2.2.2.2.2.2.2.2.2.2.2.2.2.1, M.2.2.2.2.2.2.2.2.2.2.2.2.2.2.2.2.2.2.1, M.2.2.2.2.2.2.2.2.2.2.2.2.2.2.2.2.2.2.2.1, M.2.2.2.2.2.2.2.2.2.2.2.2.2.2.2.2.2.2.2.2) x1 x3) else fX6_block_120 (M.1, M.2.1, M.2.2.1, M.2.2.2.1, t1, M.2.2.2.2.2.1, M.2.2.2.2.2.2.1, M.2.2.2.2.2.2.2.1, M.2.2.2.2.2.2.2.2.1, M.2.2.2.2.2.2.2.2.2.1, M.2.2.2.2.2.2.2.2.2.2.1, M.2.2.2.2.2.2.2.2.2.2.2.1, M.2.2.2.2.2.2.2.2.2.2.2.2.1, M.2.2.2.2.2.2.2.2.2.2.2.2.2.1, M.2.2.2.2.2.2.2.2.2.2.2.2.2.2.1, M.2.2.2.2.2.2.2.2.2.2.2.2.2.2.2.1, M.2.2.2.2.2.2.2.2.2.2.2.2.2.2.2.2.1, M.2.2.2.2.2.2.2.2.2.2.2.2.2.2.2.2.2.1, M.2.2.2.2.2.2.2.2.2.2.2.2.2.2.2.2.2.2.1, M.2.2.2.2.2.2.2.2.2.2.2.2.2.2.2.2.2.2.2.1, M.2.2.2.2.2.2.2.2.2.2.2.2.2.2.2.2.2.2.2.2) x1 x3) else none)
def fX6_block_33 (M : S6) (x1 : Int32) (t0 : Int32) : Option (Int32 × (S6)) := (if M.2.2.2.2.1 = 0 then (if t0 = 0 then xbnd0 (fX6_number M (8 : Int32)) (fun v_5 s_6 => (if s_6.2.2.2.2.1 = 0 then (if (s_6.2.2.2.2.2.2.2.1 + (v_5 + (1 : Int32))) ≤ (400 : Int32) then fX6_block_93 s_6 x1 (v_5 + (1 : Int32)) (0 : Int32) else fX6_block_93 s_6 x1 (v_5 + (1 : Int32)) (1 : Int32)) else fX6_block_93 s_6 x1 (v_5 + (1 : Int32)) (1 : Int32))) else (if (0 : Int32) < 0 ∨ 9 ≤ ((0 : Int32)).toNatClampNeg then none else (if (0 : Int32) < 0 ∨ 9 ≤ ((0 : Int32)).toNatClampNeg then none else some ((1 : Int32), (M.1, M.2.1, M.2.2.1, M.2.2.2.1, M.2.2.2.2.1, M.2.2.2.2.2.1, M.2.2.2.2.2.2.1, M.2.2.2.2.2.2.2.1, M.2.2.2.2.2.2.2.2.1, M.2.2.2.2.2.2.2.2.2.1, (upd M.2.2.2.2.2.2.2.2.2.2.1 ((0 : Int32)).toNatClampNeg ((M.2.2.2.2.2.2.2.2.2.2.1 ((0 : Int32)).toNatClampNeg) + (1 : Int32))), M.2.2.2.2.2.2.2.2.2.2.2.1, M.2.2.2.2.2.2.2.2.2.2.2.2.1, M.2.2.2.2.2.2.2.2.2.2.2.2.2.1, M.2.2.2.2.2.2.2.2.2.2.2.2.2.2.1, M.2.2.2.2.2.2.2.2.2.2.2.2.2.2.2.1, M.2.2.2.2.2.2.2.2.2.2.2.2.2.2.2.2.1, M.2.2.2.2.2.2.2.2.2.2.2.2.2.2.2.2.2.1, M.2.2.2.2.2.2.2.2.2.2.2.2.2.2.2.2.2.2.1, M.2.2.2.2.2.2.2.2.2.2.2.2.2.2.2.2.2.2.2.1, M.2.2.2.2.2.2.2.2.2.2.2.2.2.2.2.2.2.2.2.2))))) else some ((1 : Int32), M))
def fX6_block_32 (M : S6) (x1 : Int32) : Option (Int32 × (S6)) := fX6_block_33 M x1 (0 : Int32)
def fX6_block_14 (M : S6) (t0 : Int32) : Option (Int32 × (S6)) := (if t0 = 0 then fX6_block_32 M t0 else xbnd0 (fX6_number M (1 : Int32)) (fun v_3 s_4 => (if v_3 = (1 : Int32) then fX6_block_33 s_4 t0 (1 : Int32) else fX6_block_32 s_4 t0)))
def fX6_block (M : S6) : Option (Int32 × (S6)) := xbnd0 (fX6_number M (1 : Int32)) (fun v_1 s_2 => (if v_1 = (1 : Int32) then fX6_block_14 s_2 (1 : Int32) else fX6_block_14 s_2 (0 : Int32)))
set_option maxHeartbeats 4000000 in
set_option maxRecDepth 100000 in
theorem kX6_block_121 {p : Program} {l : Launch} {e : Env} {s : State} {m : MethodId} {args : Array Value} {below : List Frame} {meth : Method} {c : Code} {D : va_G} {K : Nat → ClassId} {A : Nat → Prop} {aM : Nat → Nat} (C : xC p s m args meth c cX6_block 5 (some .boolean) yX6_block D K A []) : ∀ (M : S6) (x1 : Int32) (x3 : Int32) (t0 : Int32) (r : Int32 × (S6)), fX6_block_121  M x1 x3 t0 = some r → ∀ (H : Heap) (locs : List Loc) (ls : Array Slot), va_P D vwCl (w6 aM K M) H → va_D A (w6 aM K M) → va_S A s.heap H locs → lv_has ls 5 [(0, .ref (aM 0)), (1, .int x1), (3, .int x3)] → W p l e (xR 5 118 (oX6_block aM K r)) s m args below meth c H locs 0 0 (xQ below args s D K A (oX6_block aM K r)) (F0 m 121 ls [.int t0]) := by
  obtain ⟨hx, hb, hr, hml, hown, hK, hts, hA, hG, hlk, hte, hnm⟩ := id C
  intro M x1 x3 t0 r h H locs ls hP hD hS hl
  replace h : (if M.2.2.2.2.1 = 0 then (if (0 : Int32) < 0 ∨ 9 ≤ ((0 : Int32)).toNatClampNeg then none else (if (0 : Int32) < 0 ∨ 9 ≤ ((0 : Int32)).toNatClampNeg then none else (if t0 = 0 then xbnd0 (fX6_readHead (M.1, M.2.1, M.2.2.1, M.2.2.2.1, M.2.2.2.2.1, M.2.2.2.2.2.1, M.2.2.2.2.2.2.1, M.2.2.2.2.2.2.2.1, M.2.2.2.2.2.2.2.2.1, M.2.2.2.2.2.2.2.2.2.1, (upd M.2.2.2.2.2.2.2.2.2.2.1 ((0 : Int32)).toNatClampNeg ((M.2.2.2.2.2.2.2.2.2.2.1 ((0 : Int32)).toNatClampNeg) + (1 : Int32))), M.2.2.2.2.2.2.2.2.2.2.2.1, M.2.2.2.2.2.2.2.2.2.2.2.2.1, M.2.2.2.2.2.2.2.2.2.2.2.2.2.1, M.2.2.2.2.2.2.2.2.2.2.2.2.2.2.1, M.2.2.2.2.2.2.2.2.2.2.2.2.2.2.2.1, M.2.2.2.2.2.2.2.2.2.2.2.2.2.2.2.2.1, M.2.2.2.2.2.2.2.2.2.2.2.2.2.2.2.2.2.1, M.2.2.2.2.2.2.2.2.2.2.2.2.2.2.2.2.2.2.1, M.2.2.2.2.2.2.2.2.2.2.2.2.2.2.2.2.2.2.2.1, M.2.2.2.2.2.2.2.2.2.2.2.2.2.2.2.2.2.2.2.2)) (fun v_9 s_10 => xbnd0 (fX6_commands s_10 x3) (fun v_11 s_12 => (if x1 = 0 ∨ x1 = 1 then some (x1, s_12) else none))) else xbnd0 (fX6_plain (M.1, M.2.1, M.2.2.1, M.2.2.2.1, M.2.2.2.2.1, M.2.2.2.2.2.1, M.2.2.2.2.2.2.1, M.2.2.2.2.2.2.2.1, M.2.2.2.2.2.2.2.2.1, M.2.2.2.2.2.2.2.2.2.1, (upd M.2.2.2.2.2.2.2.2.2.2.1 ((0 : Int32)).toNatClampNeg ((M.2.2.2.2.2.2.2.2.2.2.1 ((0 : Int32)).toNatClampNeg) + (1 : Int32))), M.2.2.2.2.2.2.2.2.2.2.2.1, M.2.2.2.2.2.2.2.2.2.2.2.2.1, M.2.2.2.2.2.2.2.2.2.2.2.2.2.1, M.2.2.2.2.2.2.2.2.2.2.2.2.2.2.1, M.2.2.2.2.2.2.2.2.2.2.2.2.2.2.2.1, M.2.2.2.2.2.2.2.2.2.2.2.2.2.2.2.2.1, M.2.2.2.2.2.2.2.2.2.2.2.2.2.2.2.2.2.1, M.2.2.2.2.2.2.2.2.2.2.2.2.2.2.2.2.2.2.1, M.2.2.2.2.2.2.2.2.2.2.2.2.2.2.2.2.2.2.2.1, M.2.2.2.2.2.2.2.2.2.2.2.2.2.2.2.2.2.2.2.2) x3) (fun v_13 s_14 => (if x1 = 0 ∨ x1 = 1 then some (x1, s_14) else none))))) else some ((1 : Int32), M)) = some r := h
  refine lv_istore (lv' := [(4, .int t0), (0, .ref (aM 0)), (1, .int x1), (3, .int x3)]) hx hb dX6_block_121 hl (by decide) rfl (fun ls hl => ?_)
  refine lv_aload_n hx hb dX6_block_123 rfl (lv_at hl 1 rfl) ?_
  refine va_get (D := D) (ci := 6) (v := .int M.2.2.2.2.1) (C := RX6) (T := TX6) (N := 21) hx hb hts xu_X6 hown hK hP 0 rfl rfl 4 (by decide) (hts _ xw_511) (fun _ h9 => h9) rfl dX6_block_124 ?_
  refine lv_if_eq (tgt := 132) hx hb dX6_block_127 (by decide) (fun c9 => ?_) (fun c9 => ?_)
  · replace h := xi_t c9 h
    refine lv_aload_n hx hb dX6_block_132 rfl (lv_at hl 1 rfl) ?_
    refine va_get (D := D) (ci := 6) (v := .ref (aM 5)) (C := RX6) (T := TX6) (N := 21) hx hb hts xu_X6 hown hK hP 0 rfl rfl 10 (by decide) (hts _ xw_517) (fun _ h9 => h9) rfl dX6_block_133 ?_
    refine lv_iconst (v := (0 : Int32)) hx hb dX6_block_136 (by decide) ?_
    refine lv_dup2_11 hx hb dX6_block_137 rfl rfl ?_
    obtain ⟨hi9, h⟩ := xi_g h
    refine va_iald hx hb hK hP 5 0 rfl rfl hi9 dX6_block_138 ?_
    refine lv_iconst (v := (1 : Int32)) hx hb dX6_block_139 (by decide) ?_
    refine lv_iadd hx hb dX6_block_140 ?_
    obtain ⟨hi9, h⟩ := xi_g h
    refine va_iast hx hb hK hP hD hS 5 0 rfl rfl hi9 dX6_block_141 (fun H locs hP hD hS => ?_)
    have hP : va_P D vwCl (w6 aM K (M.1, M.2.1, M.2.2.1, M.2.2.2.1, M.2.2.2.2.1, M.2.2.2.2.2.1, M.2.2.2.2.2.2.1, M.2.2.2.2.2.2.2.1, M.2.2.2.2.2.2.2.2.1, M.2.2.2.2.2.2.2.2.2.1, (upd M.2.2.2.2.2.2.2.2.2.2.1 ((0 : Int32)).toNatClampNeg ((M.2.2.2.2.2.2.2.2.2.2.1 ((0 : Int32)).toNatClampNeg) + (1 : Int32))), M.2.2.2.2.2.2.2.2.2.2.2.1, M.2.2.2.2.2.2.2.2.2.2.2.2.1, M.2.2.2.2.2.2.2.2.2.2.2.2.2.1, M.2.2.2.2.2.2.2.2.2.2.2.2.2.2.1, M.2.2.2.2.2.2.2.2.2.2.2.2.2.2.2.1, M.2.2.2.2.2.2.2.2.2.2.2.2.2.2.2.2.1, M.2.2.2.2.2.2.2.2.2.2.2.2.2.2.2.2.2.1, M.2.2.2.2.2.2.2.2.2.2.2.2.2.2.2.2.2.2.1, M.2.2.2.2.2.2.2.2.2.2.2.2.2.2.2.2.2.2.2.1, M.2.2.2.2.2.2.2.2.2.2.2.2.2.2.2.2.2.2.2.2)) H := hP
    have hD : va_D A (w6 aM K (M.1, M.2.1, M.2.2.1, M.2.2.2.1, M.2.2.2.2.1, M.2.2.2.2.2.1, M.2.2.2.2.2.2.1, M.2.2.2.2.2.2.2.1, M.2.2.2.2.2.2.2.2.1, M.2.2.2.2.2.2.2.2.2.1, (upd M.2.2.2.2.2.2.2.2.2.2.1 ((0 : Int32)).toNatClampNeg ((M.2.2.2.2.2.2.2.2.2.2.1 ((0 : Int32)).toNatClampNeg) + (1 : Int32))), M.2.2.2.2.2.2.2.2.2.2.2.1, M.2.2.2.2.2.2.2.2.2.2.2.2.1, M.2.2.2.2.2.2.2.2.2.2.2.2.2.1, M.2.2.2.2.2.2.2.2.2.2.2.2.2.2.1, M.2.2.2.2.2.2.2.2.2.2.2.2.2.2.2.1, M.2.2.2.2.2.2.2.2.2.2.2.2.2.2.2.2.1, M.2.2.2.2.2.2.2.2.2.2.2.2.2.2.2.2.2.1, M.2.2.2.2.2.2.2.2.2.2.2.2.2.2.2.2.2.2.1, M.2.2.2.2.2.2.2.2.2.2.2.2.2.2.2.2.2.2.2.1, M.2.2.2.2.2.2.2.2.2.2.2.2.2.2.2.2.2.2.2.2)) := hD
    refine lv_iload hx hb dX6_block_142 (lv_at hl 0 rfl) ?_
    refine lv_if_eq (tgt := 155) hx hb dX6_block_144 (by decide) (fun c9 => ?_) (fun c9 => ?_)
    · replace h := xi_t c9 h
      refine lv_aload_n hx hb dX6_block_155 rfl (lv_at hl 1 rfl) ?_
      obtain ⟨v_9, s_10, hc9, h⟩ := xi_d h
      refine xc_V (As := []) (ws' := w6 aM K s_10) C (mX6_readHead l D K aM _ _ _ hc9) xgi_X6_135 xd_X6_readHead ⟨Nat.le_of_ble_eq_true rfl, Nat.le_of_ble_eq_true rfl⟩ ⟨Nat.zero_le _, Nat.zero_le _⟩ hl rfl (Nat.le_of_ble_eq_true rfl) dX6_block_156 hP hD hS 0 6 rfl rfl rfl [0, 1, 2, 3, 4, 5, 6, 7, 8, 9, 10, 11] rfl rfl [(0, w6 aM K s_10)] rfl rfl rfl (List.forall_mem_cons.mpr ⟨Nat.le_of_ble_eq_true rfl, (fun _ h => absurd h List.not_mem_nil)⟩) (fun H locs hP hD hS => ?_)
      refine W.eq (g2 := F0 m 159 ls []) rfl ?_
      refine lv_aload_n hx hb dX6_block_159 rfl (lv_at hl 1 rfl) ?_
      refine lv_iload_n hx hb dX6_block_160 rfl (lv_at hl 3 rfl) ?_
      obtain ⟨v_11, s_12, hc9, h⟩ := xi_d h
      refine xc_V (As := [.int x3]) (ws' := w6 aM K s_12) C (mX6_commands l D K aM _ _ _ _ hc9) xgi_X6_138 xd_X6_commands ⟨Nat.le_of_ble_eq_true rfl, Nat.le_of_ble_eq_true rfl⟩ ⟨Nat.zero_le _, Nat.zero_le _⟩ hl rfl (Nat.le_of_ble_eq_true rfl) dX6_block_161 hP hD hS 0 6 rfl rfl rfl [0, 1, 2, 3, 4, 5, 6, 7, 8, 9, 10, 11] rfl rfl [(0, w6 aM K s_12)] rfl rfl rfl (List.forall_mem_cons.mpr ⟨Nat.le_of_ble_eq_true rfl, (fun _ h => absurd h List.not_mem_nil)⟩) (fun H locs hP hD hS => ?_)
      refine W.eq (g2 := F0 m 164 ls []) rfl ?_
      refine lv_iload_n hx hb dX6_block_164 rfl (lv_at hl 2 rfl) ?_
      obtain ⟨hz9, h⟩ := xi_b h
      obtain rfl := Option.some.inj h
      exact xe_z C hz9.1 hP hD hS dX6_block_165
    · replace h := xi_f c9 h
      refine lv_aload_n hx hb dX6_block_147 rfl (lv_at hl 1 rfl) ?_
      refine lv_iload_n hx hb dX6_block_148 rfl (lv_at hl 3 rfl) ?_
      obtain ⟨v_13, s_14, hc9, h⟩ := xi_d h
      refine xc_V (As := [.int x3]) (ws' := w6 aM K s_14) C (mX6_plain l D K aM _ _ _ _ hc9) xgi_X6_132 xd_X6_plain ⟨Nat.le_of_ble_eq_true rfl, Nat.le_of_ble_eq_true rfl⟩ ⟨Nat.zero_le _, Nat.zero_le _⟩ hl rfl (Nat.le_of_ble_eq_true rfl) dX6_block_149 hP hD hS 0 6 rfl rfl rfl [0, 1, 2, 3, 4, 5, 6, 7, 8, 9, 10, 11] rfl rfl [(0, w6 aM K s_14)] rfl rfl rfl (List.forall_mem_cons.mpr ⟨Nat.le_of_ble_eq_true rfl, (fun _ h => absurd h List.not_mem_nil)⟩) (fun H locs hP hD hS => ?_)
      refine W.eq (g2 := F0 m 152 ls []) rfl ?_
      refine lv_goto (tgt := 164) hx hb dX6_block_152 (by decide) ?_
      refine lv_iload_n hx hb dX6_block_164 rfl (lv_at hl 2 rfl) ?_
      obtain ⟨hz9, h⟩ := xi_b h
      obtain rfl := Option.some.inj h
      exact xe_z C hz9.1 hP hD hS dX6_block_165
  · replace h := xi_f c9 h
    refine lv_iconst (v := (1 : Int32)) hx hb dX6_block_130 (by decide) ?_
    obtain rfl := Option.some.inj h
    exact xe_z (r := (1 : Int32)) C xz1 hP hD hS dX6_block_131
set_option maxHeartbeats 4000000 in
set_option maxRecDepth 100000 in
theorem kX6_block_120 {p : Program} {l : Launch} {e : Env} {s : State} {m : MethodId} {args : Array Value} {below : List Frame} {meth : Method} {c : Code} {D : va_G} {K : Nat → ClassId} {A : Nat → Prop} {aM : Nat → Nat} (C : xC p s m args meth c cX6_block 5 (some .boolean) yX6_block D K A []) : ∀ (M : S6) (x1 : Int32) (x3 : Int32) (r : Int32 × (S6)), fX6_block_120  M x1 x3 = some r → ∀ (H : Heap) (locs : List Loc) (ls : Array Slot), va_P D vwCl (w6 aM K M) H → va_D A (w6 aM K M) → va_S A s.heap H locs → lv_has ls 5 [(0, .ref (aM 0)), (1, .int x1), (3, .int x3)] → W p l e (xR 5 118 (oX6_block aM K r)) s m args below meth c H locs 0 0 (xQ below args s D K A (oX6_block aM K r)) (F0 m 120 ls []) := by
  obtain ⟨hx, hb, hr, hml, hown, hK, hts, hA, hG, hlk, hte, hnm⟩ := id C
  intro M x1 x3 r h H locs ls hP hD hS hl
  replace h : fX6_block_121 M x1 x3 (0 : Int32) = some r := h
  refine lv_iconst (v := (0 : Int32)) hx hb dX6_block_120 (by decide) ?_
  exact kX6_block_121 C _ _ _ _ _ h _ _ _ hP hD hS (lv_sub hl [0, 1, 2] rfl)
set_option maxHeartbeats 4000000 in
set_option maxRecDepth 100000 in
theorem kX6_block_93 {p : Program} {l : Launch} {e : Env} {s : State} {m : MethodId} {args : Array Value} {below : List Frame} {meth : Method} {c : Code} {D : va_G} {K : Nat → ClassId} {A : Nat → Prop} {aM : Nat → Nat} (C : xC p s m args meth c cX6_block 5 (some .boolean) yX6_block D K A []) : ∀ (M : S6) (x1 : Int32) (x3 : Int32) (t1 : Int32) (r : Int32 × (S6)), fX6_block_93  M x1 x3 t1 = some r → ∀ (H : Heap) (locs : List Loc) (ls : Array Slot), va_P D vwCl (w6 aM K M) H → va_D A (w6 aM K M) → va_S A s.heap H locs → lv_has ls 5 [(0, .ref (aM 0)), (1, .int x1), (3, .int x3)] → W p l e (xR 5 118 (oX6_block aM K r)) s m args below meth c H locs 0 0 (xQ below args s D K A (oX6_block aM K r)) (F0 m 93 ls [.int t1, .ref (aM 0)]) := by
  obtain ⟨hx, hb, hr, hml, hown, hK, hts, hA, hG, hlk, hte, hnm⟩ := id C
  intro M x1 x3 t1 r h H locs ls hP hD hS hl
  replace h : (if t1 = 0 ∨ t1 = 1 then (if t1 = 0 then (if x1 = 0 then xbnd0 (fX6_number (M.1, M.2.1, M.2.2.1, M.2.2.2.1, t1, M.2.2.2.2.2.1, M.2.2.2.2.2.2.1, M.2.2.2.2.2.2.2.1, M.2.2.2.2.2.2.2.2.1, M.2.2.2.2.2.2.2.2.2.1, M.2.2.2.2.2.2.2.2.2.2.1, M.2.2.2.2.2.2.2.2.2.2.2.1, M.2.2.2.2.2.2.2.2.2.2.2.2.1, M.2.2.2.2.2.2.2.2.2.2.2.2.2.1, M.2.2.2.2.2.2.2.2.2.2.2.2.2.2.1, M.2.2.2.2.2.2.2.2.2.2.2.2.2.2.2.1, M.2.2.2.2.2.2.2.2.2.2.2.2.2.2.2.2.1, M.2.2.2.2.2.2.2.2.2.2.2.2.2.2.2.2.2.1, M.2.2.2.2.2.2.2.2.2.2.2.2.2.2.2.2.2.2.1, M.2.2.2.2.2.2.2.2.2.2.2.2.2.2.2.2.2.2.2.1, M.2.2.2.2.2.2.2.2.2.2.2.2.2.2.2.2.2.2.2.2) (1 : Int32)) (fun v_7 s_8 => (if v_7 = (1 : Int32) then fX6_block_121 s_8 x1 x3 (1 : Int32) else fX6_block_120 s_8 x1 x3)) else fX6_block_120 (M.1, M.2.1, M.2.2.1, M.2.2.2.1, t1, M.2.2.2.2.2.1, M.2.2.2.2.2.2.1, M.2.2.2.2.2.2.2.1, M.2.2.2.2.2.2.2.2.1, M.2.2.2.2.2.2.2.2.2.1, M.2.2.2.2.2.2.2.2.2.2.1, M.2.2.2.2.2.2.2.2.2.2.2.1, M.2.2.2.2.2.2.2.2.2.2.2.2.1, M.2.2.2.2.2.2.2.2.2.2.2.2.2.1, M.2.2.2.2.2.2.2.2.2.2.2.2.2.2.1, M.2.2.2.2.2.2.2.2.2.2.2.2.2.2.2.1, M.2.2.2.2.2.2.2.2.2.2.2.2.2.2.2.2.1, M.2.2.2.2.2.2.2.2.2.2.2.2.2.2.2.2.2.1, M.2.2.2.2.2.2.2.2.2.2.2.2.2.2.2.2.2.2.1, M.2.2.2.2.2.2.2.2.2.2.2.2.2.2.2.2.2.2.2.1, M.2.2.2.2.2.2.2.2.2.2.2.2.2.2.2.2.2.2.2.2) x1 x3) else fX6_block_120 (M.1, M.2.1, M.2.2.1, M.2.2.2.1, t1, M.2.2.2.2.2.1, M.2.2.2.2.2.2.1, M.2.2.2.2.2.2.2.1, M.2.2.2.2.2.2.2.2.1, M.2.2.2.2.2.2.2.2.2.1, M.2.2.2.2.2.2.2.2.2.2.1, M.2.2.2.2.2.2.2.2.2.2.2.1, M.2.2.2.2.2.2.2.2.2.2.2.2.1, M.2.2.2.2.2.2.2.2.2.2.2.2.2.1, M.2.2.2.2.2.2.2.2.2.2.2.2.2.2.1, M.2.2.2.2.2.2.2.2.2.2.2.2.2.2.2.1, M.2.2.2.2.2.2.2.2.2.2.2.2.2.2.2.2.1, M.2.2.2.2.2.2.2.2.2.2.2.2.2.2.2.2.2.1, M.2.2.2.2.2.2.2.2.2.2.2.2.2.2.2.2.2.2.1, M.2.2.2.2.2.2.2.2.2.2.2.2.2.2.2.2.2.2.2.1, M.2.2.2.2.2.2.2.2.2.2.2.2.2.2.2.2.2.2.2.2) x1 x3) else none) = some r := h
  obtain ⟨hz9, h⟩ := xi_b h
  refine va_put (D := D) (ci := 6) (v := .int t1) (ty := .boolean) (C := RX6) (T := TX6) (N := 21) hx hb hts xu_X6 tyX6 tyX6_ok nmX6 hown hK hP hD hS 0 rfl rfl 4 (by decide) (hts _ xw_511) (fun _ h9 => h9) rfl (by decide +kernel) hz9.1 hz9.2 (Nat.le_of_ble_eq_true rfl) dX6_block_93 (fun H locs hP hD hS => ?_)
  have hP : va_P D vwCl (w6 aM K (M.1, M.2.1, M.2.2.1, M.2.2.2.1, t1, M.2.2.2.2.2.1, M.2.2.2.2.2.2.1, M.2.2.2.2.2.2.2.1, M.2.2.2.2.2.2.2.2.1, M.2.2.2.2.2.2.2.2.2.1, M.2.2.2.2.2.2.2.2.2.2.1, M.2.2.2.2.2.2.2.2.2.2.2.1, M.2.2.2.2.2.2.2.2.2.2.2.2.1, M.2.2.2.2.2.2.2.2.2.2.2.2.2.1, M.2.2.2.2.2.2.2.2.2.2.2.2.2.2.1, M.2.2.2.2.2.2.2.2.2.2.2.2.2.2.2.1, M.2.2.2.2.2.2.2.2.2.2.2.2.2.2.2.2.1, M.2.2.2.2.2.2.2.2.2.2.2.2.2.2.2.2.2.1, M.2.2.2.2.2.2.2.2.2.2.2.2.2.2.2.2.2.2.1, M.2.2.2.2.2.2.2.2.2.2.2.2.2.2.2.2.2.2.2.1, M.2.2.2.2.2.2.2.2.2.2.2.2.2.2.2.2.2.2.2.2)) H := hP
  have hD : va_D A (w6 aM K (M.1, M.2.1, M.2.2.1, M.2.2.2.1, t1, M.2.2.2.2.2.1, M.2.2.2.2.2.2.1, M.2.2.2.2.2.2.2.1, M.2.2.2.2.2.2.2.2.1, M.2.2.2.2.2.2.2.2.2.1, M.2.2.2.2.2.2.2.2.2.2.1, M.2.2.2.2.2.2.2.2.2.2.2.1, M.2.2.2.2.2.2.2.2.2.2.2.2.1, M.2.2.2.2.2.2.2.2.2.2.2.2.2.1, M.2.2.2.2.2.2.2.2.2.2.2.2.2.2.1, M.2.2.2.2.2.2.2.2.2.2.2.2.2.2.2.1, M.2.2.2.2.2.2.2.2.2.2.2.2.2.2.2.2.1, M.2.2.2.2.2.2.2.2.2.2.2.2.2.2.2.2.2.1, M.2.2.2.2.2.2.2.2.2.2.2.2.2.2.2.2.2.2.1, M.2.2.2.2.2.2.2.2.2.2.2.2.2.2.2.2.2.2.2.1, M.2.2.2.2.2.2.2.2.2.2.2.2.2.2.2.2.2.2.2.2)) := hD
  refine lv_aload_n hx hb dX6_block_96 rfl (lv_at hl 0 rfl) ?_
  refine va_get (D := D) (ci := 6) (v := .int t1) (C := RX6) (T := TX6) (N := 21) hx hb hts xu_X6 hown hK hP 0 rfl rfl 4 (by decide) (hts _ xw_511) (fun _ h9 => h9) rfl dX6_block_97 ?_
  refine lv_if_ne (tgt := 120) hx hb dX6_block_100 (by decide) (fun c9 => ?_) (fun c9 => ?_)
  · replace h := xi_f c9 h
    exact kX6_block_120 C _ _ _ _ h _ _ _ hP hD hS (lv_sub hl [0, 1, 2] rfl)
  · replace h := xi_t c9 h
    refine lv_iload_n hx hb dX6_block_103 rfl (lv_at hl 1 rfl) ?_
    refine lv_if_ne (tgt := 120) hx hb dX6_block_104 (by decide) (fun c9 => ?_) (fun c9 => ?_)
    · replace h := xi_f c9 h
      exact kX6_block_120 C _ _ _ _ h _ _ _ hP hD hS (lv_sub hl [0, 1, 2] rfl)
    · replace h := xi_t c9 h
      refine lv_aload_n hx hb dX6_block_107 rfl (lv_at hl 0 rfl) ?_
      refine lv_iconst (v := (1 : Int32)) hx hb dX6_block_108 (by decide) ?_
      obtain ⟨v_7, s_8, hc9, h⟩ := xi_d h
      refine xc_V (As := [.int (1 : Int32)]) (ws' := w6 aM K s_8) C (mX6_number l D K aM _ _ _ _ hc9) xgi_X6_66 xd_X6_number ⟨Nat.le_of_ble_eq_true rfl, Nat.le_of_ble_eq_true rfl⟩ ⟨Nat.zero_le _, Nat.zero_le _⟩ hl rfl (Nat.le_of_ble_eq_true rfl) dX6_block_109 hP hD hS 0 6 rfl rfl rfl [0, 1, 2, 3, 4, 5, 6, 7, 8, 9, 10, 11] rfl rfl [(0, w6 aM K s_8)] rfl rfl rfl (List.forall_mem_cons.mpr ⟨Nat.le_of_ble_eq_true rfl, (fun _ h => absurd h List.not_mem_nil)⟩) (fun H locs hP hD hS => ?_)
      refine W.eq (g2 := F0 m 112 ls [.int v_7]) rfl ?_
      refine lv_iconst (v := (1 : Int32)) hx hb dX6_block_112 (by decide) ?_
      refine lv_icmp_ne (tgt := 120) hx hb dX6_block_113 (by decide) (fun c9 => ?_) (fun c9 => ?_)
      · replace h := xi_f c9 h
        exact kX6_block_120 C _ _ _ _ h _ _ _ hP hD hS (lv_sub hl [0, 1, 2] rfl)
      · replace h := xi_t c9 h
        refine lv_iconst (v := (1 : Int32)) hx hb dX6_block_116 (by decide) ?_
        refine lv_goto (tgt := 121) hx hb dX6_block_117 (by decide) ?_
        exact kX6_block_121 C _ _ _ _ _ h _ _ _ hP hD hS (lv_sub hl [0, 1, 2] rfl)
set_option maxHeartbeats 4000000 in
set_option maxRecDepth 100000 in
theorem kX6_block_33 {p : Program} {l : Launch} {e : Env} {s : State} {m : MethodId} {args : Array Value} {below : List Frame} {meth : Method} {c : Code} {D : va_G} {K : Nat → ClassId} {A : Nat → Prop} {aM : Nat → Nat} (C : xC p s m args meth c cX6_block 5 (some .boolean) yX6_block D K A []) : ∀ (M : S6) (x1 : Int32) (t0 : Int32) (r : Int32 × (S6)), fX6_block_33  M x1 t0 = some r → ∀ (H : Heap) (locs : List Loc) (ls : Array Slot), va_P D vwCl (w6 aM K M) H → va_D A (w6 aM K M) → va_S A s.heap H locs → lv_has ls 5 [(0, .ref (aM 0)), (1, .int x1)] → W p l e (xR 5 118 (oX6_block aM K r)) s m args below meth c H locs 0 0 (xQ below args s D K A (oX6_block aM K r)) (F0 m 33 ls [.int t0]) := by
  obtain ⟨hx, hb, hr, hml, hown, hK, hts, hA, hG, hlk, hte, hnm⟩ := id C
  intro M x1 t0 r h H locs ls hP hD hS hl
  replace h : (if M.2.2.2.2.1 = 0 then (if t0 = 0 then xbnd0 (fX6_number M (8 : Int32)) (fun v_5 s_6 => (if s_6.2.2.2.2.1 = 0 then (if (s_6.2.2.2.2.2.2.2.1 + (v_5 + (1 : Int32))) ≤ (400 : Int32) then fX6_block_93 s_6 x1 (v_5 + (1 : Int32)) (0 : Int32) else fX6_block_93 s_6 x1 (v_5 + (1 : Int32)) (1 : Int32)) else fX6_block_93 s_6 x1 (v_5 + (1 : Int32)) (1 : Int32))) else (if (0 : Int32) < 0 ∨ 9 ≤ ((0 : Int32)).toNatClampNeg then none else (if (0 : Int32) < 0 ∨ 9 ≤ ((0 : Int32)).toNatClampNeg then none else some ((1 : Int32), (M.1, M.2.1, M.2.2.1, M.2.2.2.1, M.2.2.2.2.1, M.2.2.2.2.2.1, M.2.2.2.2.2.2.1, M.2.2.2.2.2.2.2.1, M.2.2.2.2.2.2.2.2.1, M.2.2.2.2.2.2.2.2.2.1, (upd M.2.2.2.2.2.2.2.2.2.2.1 ((0 : Int32)).toNatClampNeg ((M.2.2.2.2.2.2.2.2.2.2.1 ((0 : Int32)).toNatClampNeg) + (1 : Int32))), M.2.2.2.2.2.2.2.2.2.2.2.1, M.2.2.2.2.2.2.2.2.2.2.2.2.1, M.2.2.2.2.2.2.2.2.2.2.2.2.2.1, M.2.2.2.2.2.2.2.2.2.2.2.2.2.2.1, M.2.2.2.2.2.2.2.2.2.2.2.2.2.2.2.1, M.2.2.2.2.2.2.2.2.2.2.2.2.2.2.2.2.1, M.2.2.2.2.2.2.2.2.2.2.2.2.2.2.2.2.2.1, M.2.2.2.2.2.2.2.2.2.2.2.2.2.2.2.2.2.2.1, M.2.2.2.2.2.2.2.2.2.2.2.2.2.2.2.2.2.2.2.1, M.2.2.2.2.2.2.2.2.2.2.2.2.2.2.2.2.2.2.2.2))))) else some ((1 : Int32), M)) = some r := h
  refine lv_istore_n (lv' := [(2, .int t0), (0, .ref (aM 0)), (1, .int x1)]) hx hb dX6_block_33 rfl hl (by decide) rfl (fun ls hl => ?_)
  refine lv_aload_n hx hb dX6_block_34 rfl (lv_at hl 1 rfl) ?_
  refine va_get (D := D) (ci := 6) (v := .int M.2.2.2.2.1) (C := RX6) (T := TX6) (N := 21) hx hb hts xu_X6 hown hK hP 0 rfl rfl 4 (by decide) (hts _ xw_511) (fun _ h9 => h9) rfl dX6_block_35 ?_
  refine lv_if_eq (tgt := 43) hx hb dX6_block_38 (by decide) (fun c9 => ?_) (fun c9 => ?_)
  · replace h := xi_t c9 h
    refine lv_iload_n hx hb dX6_block_43 rfl (lv_at hl 0 rfl) ?_
    refine lv_if_eq (tgt := 59) hx hb dX6_block_44 (by decide) (fun c9 => ?_) (fun c9 => ?_)
    · replace h := xi_t c9 h
      refine lv_aload_n hx hb dX6_block_59 rfl (lv_at hl 1 rfl) ?_
      refine lv_bipush (v := (8 : Int32)) hx hb dX6_block_60 (by decide) ?_
      obtain ⟨v_5, s_6, hc9, h⟩ := xi_d h
      refine xc_V (As := [.int (8 : Int32)]) (ws' := w6 aM K s_6) C (mX6_number l D K aM _ _ _ _ hc9) xgi_X6_66 xd_X6_number ⟨Nat.le_of_ble_eq_true rfl, Nat.le_of_ble_eq_true rfl⟩ ⟨Nat.zero_le _, Nat.zero_le _⟩ hl rfl (Nat.le_of_ble_eq_true rfl) dX6_block_62 hP hD hS 0 6 rfl rfl rfl [0, 1, 2, 3, 4, 5, 6, 7, 8, 9, 10, 11] rfl rfl [(0, w6 aM K s_6)] rfl rfl rfl (List.forall_mem_cons.mpr ⟨Nat.le_of_ble_eq_true rfl, (fun _ h => absurd h List.not_mem_nil)⟩) (fun H locs hP hD hS => ?_)
      refine W.eq (g2 := F0 m 65 ls [.int v_5]) rfl ?_
      refine lv_iconst (v := (1 : Int32)) hx hb dX6_block_65 (by decide) ?_
      refine lv_iadd hx hb dX6_block_66 ?_
      refine lv_istore_n (lv' := [(3, .int (v_5 + (1 : Int32))), (2, .int t0), (0, .ref (aM 0)), (1, .int x1)]) hx hb dX6_block_67 rfl hl (by decide) rfl (fun ls hl => ?_)
      refine lv_aload_n hx hb dX6_block_68 rfl (lv_at hl 2 rfl) ?_
      refine lv_aload_n hx hb dX6_block_69 rfl (lv_at hl 2 rfl) ?_
      refine va_get (D := D) (ci := 6) (v := .int s_6.2.2.2.2.1) (C := RX6) (T := TX6) (N := 21) hx hb hts xu_X6 hown hK hP 0 rfl rfl 4 (by decide) (hts _ xw_511) (fun _ h9 => h9) rfl dX6_block_70 ?_
      refine lv_if_ne (tgt := 88) hx hb dX6_block_73 (by decide) (fun c9 => ?_) (fun c9 => ?_)
      · replace h := xi_f c9 h
        refine lv_iconst (v := (1 : Int32)) hx hb dX6_block_88 (by decide) ?_
        refine lv_goto (tgt := 93) hx hb dX6_block_89 (by decide) ?_
        exact kX6_block_93 C _ _ _ _ _ h _ _ _ hP hD hS (lv_sub hl [2, 3, 0] rfl)
      · replace h := xi_t c9 h
        refine lv_aload_n hx hb dX6_block_76 rfl (lv_at hl 2 rfl) ?_
        refine va_get (D := D) (ci := 6) (v := .int s_6.2.2.2.2.2.2.2.1) (C := RX6) (T := TX6) (N := 21) hx hb hts xu_X6 hown hK hP 0 rfl rfl 7 (by decide) (hts _ xw_514) (fun _ h9 => h9) rfl dX6_block_77 ?_
        refine lv_iload_n hx hb dX6_block_80 rfl (lv_at hl 0 rfl) ?_
        refine lv_iadd hx hb dX6_block_81 ?_
        refine lv_sipush (v := (400 : Int32)) hx hb dX6_block_82 (by decide) ?_
        refine lv_icmp_le (tgt := 92) hx hb dX6_block_85 (by decide) (fun c9 => ?_) (fun c9 => ?_)
        · replace h := xi_t c9 h
          refine lv_iconst (v := (0 : Int32)) hx hb dX6_block_92 (by decide) ?_
          exact kX6_block_93 C _ _ _ _ _ h _ _ _ hP hD hS (lv_sub hl [2, 3, 0] rfl)
        · replace h := xi_f c9 h
          refine lv_iconst (v := (1 : Int32)) hx hb dX6_block_88 (by decide) ?_
          refine lv_goto (tgt := 93) hx hb dX6_block_89 (by decide) ?_
          exact kX6_block_93 C _ _ _ _ _ h _ _ _ hP hD hS (lv_sub hl [2, 3, 0] rfl)
    · replace h := xi_f c9 h
      refine lv_aload_n hx hb dX6_block_47 rfl (lv_at hl 1 rfl) ?_
      refine va_get (D := D) (ci := 6) (v := .ref (aM 5)) (C := RX6) (T := TX6) (N := 21) hx hb hts xu_X6 hown hK hP 0 rfl rfl 10 (by decide) (hts _ xw_517) (fun _ h9 => h9) rfl dX6_block_48 ?_
      refine lv_iconst (v := (0 : Int32)) hx hb dX6_block_51 (by decide) ?_
      refine lv_dup2_11 hx hb dX6_block_52 rfl rfl ?_
      obtain ⟨hi9, h⟩ := xi_g h
      refine va_iald hx hb hK hP 5 0 rfl rfl hi9 dX6_block_53 ?_
      refine lv_iconst (v := (1 : Int32)) hx hb dX6_block_54 (by decide) ?_
      refine lv_iadd hx hb dX6_block_55 ?_
      obtain ⟨hi9, h⟩ := xi_g h
      refine va_iast hx hb hK hP hD hS 5 0 rfl rfl hi9 dX6_block_56 (fun H locs hP hD hS => ?_)
      have hP : va_P D vwCl (w6 aM K (M.1, M.2.1, M.2.2.1, M.2.2.2.1, M.2.2.2.2.1, M.2.2.2.2.2.1, M.2.2.2.2.2.2.1, M.2.2.2.2.2.2.2.1, M.2.2.2.2.2.2.2.2.1, M.2.2.2.2.2.2.2.2.2.1, (upd M.2.2.2.2.2.2.2.2.2.2.1 ((0 : Int32)).toNatClampNeg ((M.2.2.2.2.2.2.2.2.2.2.1 ((0 : Int32)).toNatClampNeg) + (1 : Int32))), M.2.2.2.2.2.2.2.2.2.2.2.1, M.2.2.2.2.2.2.2.2.2.2.2.2.1, M.2.2.2.2.2.2.2.2.2.2.2.2.2.1, M.2.2.2.2.2.2.2.2.2.2.2.2.2.2.1, M.2.2.2.2.2.2.2.2.2.2.2.2.2.2.2.1, M.2.2.2.2.2.2.2.2.2.2.2.2.2.2.2.2.1, M.2.2.2.2.2.2.2.2.2.2.2.2.2.2.2.2.2.1, M.2.2.2.2.2.2.2.2.2.2.2.2.2.2.2.2.2.2.1, M.2.2.2.2.2.2.2.2.2.2.2.2.2.2.2.2.2.2.2.1, M.2.2.2.2.2.2.2.2.2.2.2.2.2.2.2.2.2.2.2.2)) H := hP
      have hD : va_D A (w6 aM K (M.1, M.2.1, M.2.2.1, M.2.2.2.1, M.2.2.2.2.1, M.2.2.2.2.2.1, M.2.2.2.2.2.2.1, M.2.2.2.2.2.2.2.1, M.2.2.2.2.2.2.2.2.1, M.2.2.2.2.2.2.2.2.2.1, (upd M.2.2.2.2.2.2.2.2.2.2.1 ((0 : Int32)).toNatClampNeg ((M.2.2.2.2.2.2.2.2.2.2.1 ((0 : Int32)).toNatClampNeg) + (1 : Int32))), M.2.2.2.2.2.2.2.2.2.2.2.1, M.2.2.2.2.2.2.2.2.2.2.2.2.1, M.2.2.2.2.2.2.2.2.2.2.2.2.2.1, M.2.2.2.2.2.2.2.2.2.2.2.2.2.2.1, M.2.2.2.2.2.2.2.2.2.2.2.2.2.2.2.1, M.2.2.2.2.2.2.2.2.2.2.2.2.2.2.2.2.1, M.2.2.2.2.2.2.2.2.2.2.2.2.2.2.2.2.2.1, M.2.2.2.2.2.2.2.2.2.2.2.2.2.2.2.2.2.2.1, M.2.2.2.2.2.2.2.2.2.2.2.2.2.2.2.2.2.2.2.1, M.2.2.2.2.2.2.2.2.2.2.2.2.2.2.2.2.2.2.2.2)) := hD
      refine lv_iconst (v := (1 : Int32)) hx hb dX6_block_57 (by decide) ?_
      obtain rfl := Option.some.inj h
      exact xe_z (r := (1 : Int32)) C xz1 hP hD hS dX6_block_58
  · replace h := xi_f c9 h
    refine lv_iconst (v := (1 : Int32)) hx hb dX6_block_41 (by decide) ?_
    obtain rfl := Option.some.inj h
    exact xe_z (r := (1 : Int32)) C xz1 hP hD hS dX6_block_42
set_option maxHeartbeats 4000000 in
set_option maxRecDepth 100000 in
theorem kX6_block_32 {p : Program} {l : Launch} {e : Env} {s : State} {m : MethodId} {args : Array Value} {below : List Frame} {meth : Method} {c : Code} {D : va_G} {K : Nat → ClassId} {A : Nat → Prop} {aM : Nat → Nat} (C : xC p s m args meth c cX6_block 5 (some .boolean) yX6_block D K A []) : ∀ (M : S6) (x1 : Int32) (r : Int32 × (S6)), fX6_block_32  M x1 = some r → ∀ (H : Heap) (locs : List Loc) (ls : Array Slot), va_P D vwCl (w6 aM K M) H → va_D A (w6 aM K M) → va_S A s.heap H locs → lv_has ls 5 [(0, .ref (aM 0)), (1, .int x1)] → W p l e (xR 5 118 (oX6_block aM K r)) s m args below meth c H locs 0 0 (xQ below args s D K A (oX6_block aM K r)) (F0 m 32 ls []) := by
  obtain ⟨hx, hb, hr, hml, hown, hK, hts, hA, hG, hlk, hte, hnm⟩ := id C
  intro M x1 r h H locs ls hP hD hS hl
  replace h : fX6_block_33 M x1 (0 : Int32) = some r := h
  refine lv_iconst (v := (0 : Int32)) hx hb dX6_block_32 (by decide) ?_
  exact kX6_block_33 C _ _ _ _ h _ _ _ hP hD hS (lv_sub hl [0, 1] rfl)
set_option maxHeartbeats 4000000 in
set_option maxRecDepth 100000 in
theorem kX6_block_14 {p : Program} {l : Launch} {e : Env} {s : State} {m : MethodId} {args : Array Value} {below : List Frame} {meth : Method} {c : Code} {D : va_G} {K : Nat → ClassId} {A : Nat → Prop} {aM : Nat → Nat} (C : xC p s m args meth c cX6_block 5 (some .boolean) yX6_block D K A []) : ∀ (M : S6) (t0 : Int32) (r : Int32 × (S6)), fX6_block_14  M t0 = some r → ∀ (H : Heap) (locs : List Loc) (ls : Array Slot), va_P D vwCl (w6 aM K M) H → va_D A (w6 aM K M) → va_S A s.heap H locs → lv_has ls 5 [(0, .ref (aM 0))] → W p l e (xR 5 118 (oX6_block aM K r)) s m args below meth c H locs 0 0 (xQ below args s D K A (oX6_block aM K r)) (F0 m 14 ls [.int t0]) := by
  obtain ⟨hx, hb, hr, hml, hown, hK, hts, hA, hG, hlk, hte, hnm⟩ := id C
  intro M t0 r h H locs ls hP hD hS hl
  replace h : (if t0 = 0 then fX6_block_32 M t0 else xbnd0 (fX6_number M (1 : Int32)) (fun v_3 s_4 => (if v_3 = (1 : Int32) then fX6_block_33 s_4 t0 (1 : Int32) else fX6_block_32 s_4 t0))) = some r := h
  refine lv_istore_n (lv' := [(1, .int t0), (0, .ref (aM 0))]) hx hb dX6_block_14 rfl hl (by decide) rfl (fun ls hl => ?_)
  refine lv_iload_n hx hb dX6_block_15 rfl (lv_at hl 0 rfl) ?_
  refine lv_if_eq (tgt := 32) hx hb dX6_block_16 (by decide) (fun c9 => ?_) (fun c9 => ?_)
  · replace h := xi_t c9 h
    exact kX6_block_32 C _ _ _ h _ _ _ hP hD hS (lv_sub hl [1, 0] rfl)
  · replace h := xi_f c9 h
    refine lv_aload_n hx hb dX6_block_19 rfl (lv_at hl 1 rfl) ?_
    refine lv_iconst (v := (1 : Int32)) hx hb dX6_block_20 (by decide) ?_
    obtain ⟨v_3, s_4, hc9, h⟩ := xi_d h
    refine xc_V (As := [.int (1 : Int32)]) (ws' := w6 aM K s_4) C (mX6_number l D K aM _ _ _ _ hc9) xgi_X6_66 xd_X6_number ⟨Nat.le_of_ble_eq_true rfl, Nat.le_of_ble_eq_true rfl⟩ ⟨Nat.zero_le _, Nat.zero_le _⟩ hl rfl (Nat.le_of_ble_eq_true rfl) dX6_block_21 hP hD hS 0 6 rfl rfl rfl [0, 1, 2, 3, 4, 5, 6, 7, 8, 9, 10, 11] rfl rfl [(0, w6 aM K s_4)] rfl rfl rfl (List.forall_mem_cons.mpr ⟨Nat.le_of_ble_eq_true rfl, (fun _ h => absurd h List.not_mem_nil)⟩) (fun H locs hP hD hS => ?_)
    refine W.eq (g2 := F0 m 24 ls [.int v_3]) rfl ?_
    refine lv_iconst (v := (1 : Int32)) hx hb dX6_block_24 (by decide) ?_
    refine lv_icmp_ne (tgt := 32) hx hb dX6_block_25 (by decide) (fun c9 => ?_) (fun c9 => ?_)
    · replace h := xi_f c9 h
      exact kX6_block_32 C _ _ _ h _ _ _ hP hD hS (lv_sub hl [1, 0] rfl)
    · replace h := xi_t c9 h
      refine lv_iconst (v := (1 : Int32)) hx hb dX6_block_28 (by decide) ?_
      refine lv_goto (tgt := 33) hx hb dX6_block_29 (by decide) ?_
      exact kX6_block_33 C _ _ _ _ h _ _ _ hP hD hS (lv_sub hl [1, 0] rfl)
set_option maxHeartbeats 4000000 in
set_option maxRecDepth 100000 in
theorem mX6_block (l : Launch) (D : va_G) (K : Nat → ClassId) (aM : Nat → Nat) (sz : Nat) (M : S6) (r : Int32 × (S6)) (h : fX6_block M = some r) : xMet l yX6_block cX6_block 5 (some .boolean) 5 118 D K [.ref (aM 0)] sz (w6 aM K M) (oX6_block aM K r) := by
  refine xm_of _ (by decide +kernel) (Nat.le_of_ble_eq_true rfl) (fun p e s m args below meth c A C hP hD ls hl => ?_)
  have hl : lv_has ls 5 [(0, .ref (aM 0))] := hl
  have hS : va_S A s.heap s.heap [] := va_S.rf
  obtain ⟨hx, hb, hr, hml, hown, hK, hts, hA, hG, hlk, hte, hnm⟩ := id C
  replace h : xbnd0 (fX6_number M (1 : Int32)) (fun v_1 s_2 => (if v_1 = (1 : Int32) then fX6_block_14 s_2 (1 : Int32) else fX6_block_14 s_2 (0 : Int32))) = some r := h
  refine lv_aload_n hx hb dX6_block_0 rfl (lv_at hl 0 rfl) ?_
  refine lv_iconst (v := (1 : Int32)) hx hb dX6_block_1 (by decide) ?_
  obtain ⟨v_1, s_2, hc9, h⟩ := xi_d h
  refine xc_V (As := [.int (1 : Int32)]) (ws' := w6 aM K s_2) C (mX6_number l D K aM _ _ _ _ hc9) xgi_X6_66 xd_X6_number ⟨Nat.le_of_ble_eq_true rfl, Nat.le_of_ble_eq_true rfl⟩ ⟨Nat.zero_le _, Nat.zero_le _⟩ hl rfl (Nat.le_of_ble_eq_true rfl) dX6_block_2 hP hD hS 0 6 rfl rfl rfl [0, 1, 2, 3, 4, 5, 6, 7, 8, 9, 10, 11] rfl rfl [(0, w6 aM K s_2)] rfl rfl rfl (List.forall_mem_cons.mpr ⟨Nat.le_of_ble_eq_true rfl, (fun _ h => absurd h List.not_mem_nil)⟩) (fun H locs hP hD hS => ?_)
  refine W.eq (g2 := F0 m 5 ls [.int v_1]) rfl ?_
  refine lv_iconst (v := (1 : Int32)) hx hb dX6_block_5 (by decide) ?_
  refine lv_icmp_ne (tgt := 13) hx hb dX6_block_6 (by decide) (fun c9 => ?_) (fun c9 => ?_)
  · replace h := xi_f c9 h
    refine lv_iconst (v := (0 : Int32)) hx hb dX6_block_13 (by decide) ?_
    exact kX6_block_14 C _ _ _ h _ _ _ hP hD hS (lv_sub hl [0] rfl)
  · replace h := xi_t c9 h
    refine lv_iconst (v := (1 : Int32)) hx hb dX6_block_9 (by decide) ?_
    refine lv_goto (tgt := 14) hx hb dX6_block_10 (by decide) ?_
    exact kX6_block_14 C _ _ _ h _ _ _ hP hD hS (lv_sub hl [0] rfl)
abbrev oX6_unfold (aM : Nat → Nat) (K : Nat → ClassId) (q : Int32 × (S6)) : xO := .inr ((some (.int q.1)), w6 aM K q.2)
def fX6_unfold_107 : Nat → S6 → Int32 → Option (Int32 × (S6))
  | 0 => fun _ _ => none
  | fu + 1 => fun M x2 => (if (9 : Int32) ≤ x2 then some (M.2.2.2.2.2.1, M) else (if x2 < 0 ∨ 9 ≤ (x2).toNatClampNeg then none else (if x2 < 0 ∨ 9 ≤ (x2).toNatClampNeg then none else fX6_unfold_107 fu (M.1, M.2.1, M.2.2.1, M.2.2.2.1, M.2.2.2.2.1, M.2.2.2.2.2.1, M.2.2.2.2.2.2.1, M.2.2.2.2.2.2.2.1, M.2.2.2.2.2.2.2.2.1, (upd M.2.2.2.2.2.2.2.2.2.1 (x2).toNatClampNeg (M.2.2.2.2.2.2.2.2.2.2.1 (x2).toNatClampNeg)), M.2.2.2.2.2.2.2.2.2.2.1, M.2.2.2.2.2.2.2.2.2.2.2.1, M.2.2.2.2.2.2.2.2.2.2.2.2.1, M.2.2.2.2.2.2.2.2.2.2.2.2.2.1, M.2.2.2.2.2.2.2.2.2.2.2.2.2.2.1, M.2.2.2.2.2.2.2.2.2.2.2.2.2.2.2.1, M.2.2.2.2.2.2.2.2.2.2.2.2.2.2.2.2.1, M.2.2.2.2.2.2.2.2.2.2.2.2.2.2.2.2.2.1, M.2.2.2.2.2.2.2.2.2.2.2.2.2.2.2.2.2.2.1, M.2.2.2.2.2.2.2.2.2.2.2.2.2.2.2.2.2.2.2.1, M.2.2.2.2.2.2.2.2.2.2.2.2.2.2.2.2.2.2.2.2) (x2 + (1 : Int32)))))
def fX6_unfold_79 : Nat → S6 → Int32 → Option (Int32 × (S6))
  | 0 => fun _ _ => none
  | fu + 1 => fun M x2 => (if M.2.2.2.2.2.2.2.1 ≤ x2 then fX6_unfold_107 xF M (0 : Int32) else (if x2 < 0 ∨ 400 ≤ (x2).toNatClampNeg then none else (if x2 < 0 ∨ 400 ≤ (x2).toNatClampNeg then none else fX6_unfold_79 fu (M.1, M.2.1, M.2.2.1, M.2.2.2.1, M.2.2.2.2.1, M.2.2.2.2.2.1, (upd M.2.2.2.2.2.2.1 (x2).toNatClampNeg (M.2.2.2.2.2.2.2.2.1 (x2).toNatClampNeg)), M.2.2.2.2.2.2.2.1, M.2.2.2.2.2.2.2.2.1, M.2.2.2.2.2.2.2.2.2.1, M.2.2.2.2.2.2.2.2.2.2.1, M.2.2.2.2.2.2.2.2.2.2.2.1, M.2.2.2.2.2.2.2.2.2.2.2.2.1, M.2.2.2.2.2.2.2.2.2.2.2.2.2.1, M.2.2.2.2.2.2.2.2.2.2.2.2.2.2.1, M.2.2.2.2.2.2.2.2.2.2.2.2.2.2.2.1, M.2.2.2.2.2.2.2.2.2.2.2.2.2.2.2.2.1, M.2.2.2.2.2.2.2.2.2.2.2.2.2.2.2.2.2.1, M.2.2.2.2.2.2.2.2.2.2.2.2.2.2.2.2.2.2.1, M.2.2.2.2.2.2.2.2.2.2.2.2.2.2.2.2.2.2.2.1, M.2.2.2.2.2.2.2.2.2.2.2.2.2.2.2.2.2.2.2.2) (x2 + (1 : Int32)))))
def fX6_unfold_57 (M : S6) (t1 : Int32) : Option (Int32 × (S6)) := (if M.2.2.2.2.1 = 0 then fX6_unfold_79 xF (t1, M.2.1, M.2.2.1, M.2.2.2.1, M.2.2.2.2.1, M.2.2.2.2.2.2.2.1, M.2.2.2.2.2.2.1, M.2.2.2.2.2.2.2.1, M.2.2.2.2.2.2.2.2.1, M.2.2.2.2.2.2.2.2.2.1, M.2.2.2.2.2.2.2.2.2.2.1, M.2.2.2.2.2.2.2.2.2.2.2.1, M.2.2.2.2.2.2.2.2.2.2.2.2.1, M.2.2.2.2.2.2.2.2.2.2.2.2.2.1, M.2.2.2.2.2.2.2.2.2.2.2.2.2.2.1, M.2.2.2.2.2.2.2.2.2.2.2.2.2.2.2.1, M.2.2.2.2.2.2.2.2.2.2.2.2.2.2.2.2.1, M.2.2.2.2.2.2.2.2.2.2.2.2.2.2.2.2.2.1, M.2.2.2.2.2.2.2.2.2.2.2.2.2.2.2.2.2.2.1, M.2.2.2.2.2.2.2.2.2.2.2.2.2.2.2.2.2.2.2.1, M.2.2.2.2.2.2.2.2.2.2.2.2.2.2.2.2.2.2.2.2) (0 : Int32) else some ((0 : Int32), (t1, M.2.1, M.2.2.1, M.2.2.2.1, M.2.2.2.2.1, M.2.2.2.2.2.1, M.2.2.2.2.2.2.1, M.2.2.2.2.2.2.2.1, M.2.2.2.2.2.2.2.2.1, M.2.2.2.2.2.2.2.2.2.1, M.2.2.2.2.2.2.2.2.2.2.1, M.2.2.2.2.2.2.2.2.2.2.2.1, M.2.2.2.2.2.2.2.2.2.2.2.2.1, M.2.2.2.2.2.2.2.2.2.2.2.2.2.1, M.2.2.2.2.2.2.2.2.2.2.2.2.2.2.1, M.2.2.2.2.2.2.2.2.2.2.2.2.2.2.2.1, M.2.2.2.2.2.2.2.2.2.2.2.2.2.2.2.2.1, M.2.2.2.2.2.2.2.2.2.2.2.2.2.2.2.2.2.1, M.2.2.2.2.2.2.2.2.2.2.2.2.2.2.2.2.2.2.1, M.2.2.2.2.2.2.2.2.2.2.2.2.2.2.2.2.2.2.2.1, M.2.2.2.2.2.2.2.2.2.2.2.2.2.2.2.2.2.2.2.2)))
def fX6_unfold_44 (M : S6) : Option (Int32 × (S6)) := (if M.2.2.2.2.1 = 0 then fX6_unfold_57 M (0 : Int32) else fX6_unfold_57 M (1 : Int32))
def fX6_unfold_25 : Nat → S6 → Int32 → Option (Int32 × (S6))
  | 0 => fun _ _ => none
  | fu + 1 => fun M x1 => (if x1 = 0 then (if M.2.2.2.2.1 = 0 then xbnd0 (fX6_block M) (fun v_3 s_4 => fX6_unfold_25 fu s_4 v_3) else fX6_unfold_44 M) else fX6_unfold_44 M)
def fX6_unfold (M : S6) : Option (Int32 × (S6)) := xbnd0 (fX6_first 9 M.2.2.2.2.2.2.2.2.2.2.1) (fun v_1 s_2 => fX6_unfold_25 xF (M.1, M.2.1, M.2.2.1, (0 : Int32), (0 : Int32), M.2.2.2.2.2.1, M.2.2.2.2.2.2.1, (0 : Int32), M.2.2.2.2.2.2.2.2.1, M.2.2.2.2.2.2.2.2.2.1, s_2, M.2.2.2.2.2.2.2.2.2.2.2.1, M.2.2.2.2.2.2.2.2.2.2.2.2.1, M.2.2.2.2.2.2.2.2.2.2.2.2.2.1, M.2.2.2.2.2.2.2.2.2.2.2.2.2.2.1, M.2.2.2.2.2.2.2.2.2.2.2.2.2.2.2.1, M.2.2.2.2.2.2.2.2.2.2.2.2.2.2.2.2.1, M.2.2.2.2.2.2.2.2.2.2.2.2.2.2.2.2.2.1, M.2.2.2.2.2.2.2.2.2.2.2.2.2.2.2.2.2.2.1, M.2.2.2.2.2.2.2.2.2.2.2.2.2.2.2.2.2.2.2.1, M.2.2.2.2.2.2.2.2.2.2.2.2.2.2.2.2.2.2.2.2) (0 : Int32))
set_option maxHeartbeats 4000000 in
set_option maxRecDepth 100000 in
theorem kX6_unfold_107 {p : Program} {l : Launch} {e : Env} {s : State} {m : MethodId} {args : Array Value} {below : List Frame} {meth : Method} {c : Code} {D : va_G} {K : Nat → ClassId} {A : Nat → Prop} {aM : Nat → Nat} (C : xC p s m args meth c cX6_unfold 3 (some .int) yX6_unfold D K A []) : ∀ fu : Nat, ∀ (M : S6) (x2 : Int32) (r : Int32 × (S6)), fX6_unfold_107 fu M x2 = some r → ∀ (H : Heap) (locs : List Loc) (ls : Array Slot), va_P D vwCl (w6 aM K M) H → va_D A (w6 aM K M) → va_S A s.heap H locs → lv_has ls 3 [(0, .ref (aM 0)), (2, .int x2)] → W p l e (xR 6 142 (oX6_unfold aM K r)) s m args below meth c H locs 0 0 (xQ below args s D K A (oX6_unfold aM K r)) (F0 m 107 ls []) := by
  obtain ⟨hx, hb, hr, hml, hown, hK, hts, hA, hG, hlk, hte, hnm⟩ := id C
  intro fu
  induction fu with
  | zero =>
    intro M x2 r h
    exact nomatch (show (none : Option (Int32 × (S6))) = some r from h)
  | succ fu ih =>
    intro M x2 r h H locs ls hP hD hS hl
    replace h : (if (9 : Int32) ≤ x2 then some (M.2.2.2.2.2.1, M) else (if x2 < 0 ∨ 9 ≤ (x2).toNatClampNeg then none else (if x2 < 0 ∨ 9 ≤ (x2).toNatClampNeg then none else fX6_unfold_107 fu (M.1, M.2.1, M.2.2.1, M.2.2.2.1, M.2.2.2.2.1, M.2.2.2.2.2.1, M.2.2.2.2.2.2.1, M.2.2.2.2.2.2.2.1, M.2.2.2.2.2.2.2.2.1, (upd M.2.2.2.2.2.2.2.2.2.1 (x2).toNatClampNeg (M.2.2.2.2.2.2.2.2.2.2.1 (x2).toNatClampNeg)), M.2.2.2.2.2.2.2.2.2.2.1, M.2.2.2.2.2.2.2.2.2.2.2.1, M.2.2.2.2.2.2.2.2.2.2.2.2.1, M.2.2.2.2.2.2.2.2.2.2.2.2.2.1, M.2.2.2.2.2.2.2.2.2.2.2.2.2.2.1, M.2.2.2.2.2.2.2.2.2.2.2.2.2.2.2.1, M.2.2.2.2.2.2.2.2.2.2.2.2.2.2.2.2.1, M.2.2.2.2.2.2.2.2.2.2.2.2.2.2.2.2.2.1, M.2.2.2.2.2.2.2.2.2.2.2.2.2.2.2.2.2.2.1, M.2.2.2.2.2.2.2.2.2.2.2.2.2.2.2.2.2.2.2.1, M.2.2.2.2.2.2.2.2.2.2.2.2.2.2.2.2.2.2.2.2) (x2 + (1 : Int32))))) = some r := h
    refine lv_iload_n hx hb dX6_unfold_107 rfl (lv_at hl 1 rfl) ?_
    refine lv_bipush (v := (9 : Int32)) hx hb dX6_unfold_108 (by decide) ?_
    refine lv_icmp_ge (tgt := 131) hx hb dX6_unfold_110 (by decide) (fun c9 => ?_) (fun c9 => ?_)
    · replace h := xi_t c9 h
      refine lv_aload_n hx hb dX6_unfold_131 rfl (lv_at hl 0 rfl) ?_
      refine va_get (D := D) (ci := 6) (v := .int M.2.2.2.2.2.1) (C := RX6) (T := TX6) (N := 21) hx hb hts xu_X6 hown hK hP 0 rfl rfl 5 (by decide) (hts _ xw_512) (fun _ h9 => h9) rfl dX6_unfold_132 ?_
      obtain rfl := Option.some.inj h
      exact xe_i C hP hD hS dX6_unfold_135
    · replace h := xi_f c9 h
      refine lv_aload_n hx hb dX6_unfold_113 rfl (lv_at hl 0 rfl) ?_
      refine va_get (D := D) (ci := 6) (v := .ref (aM 4)) (C := RX6) (T := TX6) (N := 21) hx hb hts xu_X6 hown hK hP 0 rfl rfl 9 (by decide) (hts _ xw_516) (fun _ h9 => h9) rfl dX6_unfold_114 ?_
      refine lv_iload_n hx hb dX6_unfold_117 rfl (lv_at hl 1 rfl) ?_
      refine lv_aload_n hx hb dX6_unfold_118 rfl (lv_at hl 0 rfl) ?_
      refine va_get (D := D) (ci := 6) (v := .ref (aM 5)) (C := RX6) (T := TX6) (N := 21) hx hb hts xu_X6 hown hK hP 0 rfl rfl 10 (by decide) (hts _ xw_517) (fun _ h9 => h9) rfl dX6_unfold_119 ?_
      refine lv_iload_n hx hb dX6_unfold_122 rfl (lv_at hl 1 rfl) ?_
      obtain ⟨hi9, h⟩ := xi_g h
      refine va_iald hx hb hK hP 5 0 rfl rfl hi9 dX6_unfold_123 ?_
      obtain ⟨hi9, h⟩ := xi_g h
      refine va_iast hx hb hK hP hD hS 4 0 rfl rfl hi9 dX6_unfold_124 (fun H locs hP hD hS => ?_)
      have hP : va_P D vwCl (w6 aM K (M.1, M.2.1, M.2.2.1, M.2.2.2.1, M.2.2.2.2.1, M.2.2.2.2.2.1, M.2.2.2.2.2.2.1, M.2.2.2.2.2.2.2.1, M.2.2.2.2.2.2.2.2.1, (upd M.2.2.2.2.2.2.2.2.2.1 (x2).toNatClampNeg (M.2.2.2.2.2.2.2.2.2.2.1 (x2).toNatClampNeg)), M.2.2.2.2.2.2.2.2.2.2.1, M.2.2.2.2.2.2.2.2.2.2.2.1, M.2.2.2.2.2.2.2.2.2.2.2.2.1, M.2.2.2.2.2.2.2.2.2.2.2.2.2.1, M.2.2.2.2.2.2.2.2.2.2.2.2.2.2.1, M.2.2.2.2.2.2.2.2.2.2.2.2.2.2.2.1, M.2.2.2.2.2.2.2.2.2.2.2.2.2.2.2.2.1, M.2.2.2.2.2.2.2.2.2.2.2.2.2.2.2.2.2.1, M.2.2.2.2.2.2.2.2.2.2.2.2.2.2.2.2.2.2.1, M.2.2.2.2.2.2.2.2.2.2.2.2.2.2.2.2.2.2.2.1, M.2.2.2.2.2.2.2.2.2.2.2.2.2.2.2.2.2.2.2.2)) H := hP
      have hD : va_D A (w6 aM K (M.1, M.2.1, M.2.2.1, M.2.2.2.1, M.2.2.2.2.1, M.2.2.2.2.2.1, M.2.2.2.2.2.2.1, M.2.2.2.2.2.2.2.1, M.2.2.2.2.2.2.2.2.1, (upd M.2.2.2.2.2.2.2.2.2.1 (x2).toNatClampNeg (M.2.2.2.2.2.2.2.2.2.2.1 (x2).toNatClampNeg)), M.2.2.2.2.2.2.2.2.2.2.1, M.2.2.2.2.2.2.2.2.2.2.2.1, M.2.2.2.2.2.2.2.2.2.2.2.2.1, M.2.2.2.2.2.2.2.2.2.2.2.2.2.1, M.2.2.2.2.2.2.2.2.2.2.2.2.2.2.1, M.2.2.2.2.2.2.2.2.2.2.2.2.2.2.2.1, M.2.2.2.2.2.2.2.2.2.2.2.2.2.2.2.2.1, M.2.2.2.2.2.2.2.2.2.2.2.2.2.2.2.2.2.1, M.2.2.2.2.2.2.2.2.2.2.2.2.2.2.2.2.2.2.1, M.2.2.2.2.2.2.2.2.2.2.2.2.2.2.2.2.2.2.2.1, M.2.2.2.2.2.2.2.2.2.2.2.2.2.2.2.2.2.2.2.2)) := hD
      refine lv_iinc (v := (x2 + (1 : Int32))) (lv' := [(2, .int (x2 + (1 : Int32))), (0, .ref (aM 0))]) hx hb dX6_unfold_125 hl (k := 1) rfl (by rfl) (by decide) rfl (fun ls hl => ?_)
      refine lv_goto (tgt := 107) hx hb dX6_unfold_128 (by decide) ?_
      exact ih _ _ _ h _ _ _ hP hD hS (lv_sub hl [1, 0] rfl)
set_option maxHeartbeats 4000000 in
set_option maxRecDepth 100000 in
theorem kX6_unfold_79 {p : Program} {l : Launch} {e : Env} {s : State} {m : MethodId} {args : Array Value} {below : List Frame} {meth : Method} {c : Code} {D : va_G} {K : Nat → ClassId} {A : Nat → Prop} {aM : Nat → Nat} (C : xC p s m args meth c cX6_unfold 3 (some .int) yX6_unfold D K A []) : ∀ fu : Nat, ∀ (M : S6) (x2 : Int32) (r : Int32 × (S6)), fX6_unfold_79 fu M x2 = some r → ∀ (H : Heap) (locs : List Loc) (ls : Array Slot), va_P D vwCl (w6 aM K M) H → va_D A (w6 aM K M) → va_S A s.heap H locs → lv_has ls 3 [(0, .ref (aM 0)), (2, .int x2)] → W p l e (xR 6 142 (oX6_unfold aM K r)) s m args below meth c H locs 0 0 (xQ below args s D K A (oX6_unfold aM K r)) (F0 m 79 ls []) := by
  obtain ⟨hx, hb, hr, hml, hown, hK, hts, hA, hG, hlk, hte, hnm⟩ := id C
  intro fu
  induction fu with
  | zero =>
    intro M x2 r h
    exact nomatch (show (none : Option (Int32 × (S6))) = some r from h)
  | succ fu ih =>
    intro M x2 r h H locs ls hP hD hS hl
    replace h : (if M.2.2.2.2.2.2.2.1 ≤ x2 then fX6_unfold_107 xF M (0 : Int32) else (if x2 < 0 ∨ 400 ≤ (x2).toNatClampNeg then none else (if x2 < 0 ∨ 400 ≤ (x2).toNatClampNeg then none else fX6_unfold_79 fu (M.1, M.2.1, M.2.2.1, M.2.2.2.1, M.2.2.2.2.1, M.2.2.2.2.2.1, (upd M.2.2.2.2.2.2.1 (x2).toNatClampNeg (M.2.2.2.2.2.2.2.2.1 (x2).toNatClampNeg)), M.2.2.2.2.2.2.2.1, M.2.2.2.2.2.2.2.2.1, M.2.2.2.2.2.2.2.2.2.1, M.2.2.2.2.2.2.2.2.2.2.1, M.2.2.2.2.2.2.2.2.2.2.2.1, M.2.2.2.2.2.2.2.2.2.2.2.2.1, M.2.2.2.2.2.2.2.2.2.2.2.2.2.1, M.2.2.2.2.2.2.2.2.2.2.2.2.2.2.1, M.2.2.2.2.2.2.2.2.2.2.2.2.2.2.2.1, M.2.2.2.2.2.2.2.2.2.2.2.2.2.2.2.2.1, M.2.2.2.2.2.2.2.2.2.2.2.2.2.2.2.2.2.1, M.2.2.2.2.2.2.2.2.2.2.2.2.2.2.2.2.2.2.1, M.2.2.2.2.2.2.2.2.2.2.2.2.2.2.2.2.2.2.2.1, M.2.2.2.2.2.2.2.2.2.2.2.2.2.2.2.2.2.2.2.2) (x2 + (1 : Int32))))) = some r := h
    refine lv_iload_n hx hb dX6_unfold_79 rfl (lv_at hl 1 rfl) ?_
    refine lv_aload_n hx hb dX6_unfold_80 rfl (lv_at hl 0 rfl) ?_
    refine va_get (D := D) (ci := 6) (v := .int M.2.2.2.2.2.2.2.1) (C := RX6) (T := TX6) (N := 21) hx hb hts xu_X6 hown hK hP 0 rfl rfl 7 (by decide) (hts _ xw_514) (fun _ h9 => h9) rfl dX6_unfold_81 ?_
    refine lv_icmp_ge (tgt := 105) hx hb dX6_unfold_84 (by decide) (fun c9 => ?_) (fun c9 => ?_)
    · replace h := xi_t c9 h
      refine lv_iconst (v := (0 : Int32)) hx hb dX6_unfold_105 (by decide) ?_
      refine lv_istore_n (lv' := [(2, .int (0 : Int32)), (0, .ref (aM 0))]) hx hb dX6_unfold_106 rfl hl (by decide) rfl (fun ls hl => ?_)
      exact kX6_unfold_107 C _ _ _ _ h _ _ _ hP hD hS (lv_sub hl [1, 0] rfl)
    · replace h := xi_f c9 h
      refine lv_aload_n hx hb dX6_unfold_87 rfl (lv_at hl 0 rfl) ?_
      refine va_get (D := D) (ci := 6) (v := .ref (aM 2)) (C := RX6) (T := TX6) (N := 21) hx hb hts xu_X6 hown hK hP 0 rfl rfl 6 (by decide) (hts _ xw_513) (fun _ h9 => h9) rfl dX6_unfold_88 ?_
      refine lv_iload_n hx hb dX6_unfold_91 rfl (lv_at hl 1 rfl) ?_
      refine lv_aload_n hx hb dX6_unfold_92 rfl (lv_at hl 0 rfl) ?_
      refine va_get (D := D) (ci := 6) (v := .ref (aM 3)) (C := RX6) (T := TX6) (N := 21) hx hb hts xu_X6 hown hK hP 0 rfl rfl 8 (by decide) (hts _ xw_515) (fun _ h9 => h9) rfl dX6_unfold_93 ?_
      refine lv_iload_n hx hb dX6_unfold_96 rfl (lv_at hl 1 rfl) ?_
      obtain ⟨hi9, h⟩ := xi_g h
      refine va_iald hx hb hK hP 3 0 rfl rfl hi9 dX6_unfold_97 ?_
      obtain ⟨hi9, h⟩ := xi_g h
      refine va_iast hx hb hK hP hD hS 2 0 rfl rfl hi9 dX6_unfold_98 (fun H locs hP hD hS => ?_)
      have hP : va_P D vwCl (w6 aM K (M.1, M.2.1, M.2.2.1, M.2.2.2.1, M.2.2.2.2.1, M.2.2.2.2.2.1, (upd M.2.2.2.2.2.2.1 (x2).toNatClampNeg (M.2.2.2.2.2.2.2.2.1 (x2).toNatClampNeg)), M.2.2.2.2.2.2.2.1, M.2.2.2.2.2.2.2.2.1, M.2.2.2.2.2.2.2.2.2.1, M.2.2.2.2.2.2.2.2.2.2.1, M.2.2.2.2.2.2.2.2.2.2.2.1, M.2.2.2.2.2.2.2.2.2.2.2.2.1, M.2.2.2.2.2.2.2.2.2.2.2.2.2.1, M.2.2.2.2.2.2.2.2.2.2.2.2.2.2.1, M.2.2.2.2.2.2.2.2.2.2.2.2.2.2.2.1, M.2.2.2.2.2.2.2.2.2.2.2.2.2.2.2.2.1, M.2.2.2.2.2.2.2.2.2.2.2.2.2.2.2.2.2.1, M.2.2.2.2.2.2.2.2.2.2.2.2.2.2.2.2.2.2.1, M.2.2.2.2.2.2.2.2.2.2.2.2.2.2.2.2.2.2.2.1, M.2.2.2.2.2.2.2.2.2.2.2.2.2.2.2.2.2.2.2.2)) H := hP
      have hD : va_D A (w6 aM K (M.1, M.2.1, M.2.2.1, M.2.2.2.1, M.2.2.2.2.1, M.2.2.2.2.2.1, (upd M.2.2.2.2.2.2.1 (x2).toNatClampNeg (M.2.2.2.2.2.2.2.2.1 (x2).toNatClampNeg)), M.2.2.2.2.2.2.2.1, M.2.2.2.2.2.2.2.2.1, M.2.2.2.2.2.2.2.2.2.1, M.2.2.2.2.2.2.2.2.2.2.1, M.2.2.2.2.2.2.2.2.2.2.2.1, M.2.2.2.2.2.2.2.2.2.2.2.2.1, M.2.2.2.2.2.2.2.2.2.2.2.2.2.1, M.2.2.2.2.2.2.2.2.2.2.2.2.2.2.1, M.2.2.2.2.2.2.2.2.2.2.2.2.2.2.2.1, M.2.2.2.2.2.2.2.2.2.2.2.2.2.2.2.2.1, M.2.2.2.2.2.2.2.2.2.2.2.2.2.2.2.2.2.1, M.2.2.2.2.2.2.2.2.2.2.2.2.2.2.2.2.2.2.1, M.2.2.2.2.2.2.2.2.2.2.2.2.2.2.2.2.2.2.2.1, M.2.2.2.2.2.2.2.2.2.2.2.2.2.2.2.2.2.2.2.2)) := hD
      refine lv_iinc (v := (x2 + (1 : Int32))) (lv' := [(2, .int (x2 + (1 : Int32))), (0, .ref (aM 0))]) hx hb dX6_unfold_99 hl (k := 1) rfl (by rfl) (by decide) rfl (fun ls hl => ?_)
      refine lv_goto (tgt := 79) hx hb dX6_unfold_102 (by decide) ?_
      exact ih _ _ _ h _ _ _ hP hD hS (lv_sub hl [1, 0] rfl)
set_option maxHeartbeats 4000000 in
set_option maxRecDepth 100000 in
theorem kX6_unfold_57 {p : Program} {l : Launch} {e : Env} {s : State} {m : MethodId} {args : Array Value} {below : List Frame} {meth : Method} {c : Code} {D : va_G} {K : Nat → ClassId} {A : Nat → Prop} {aM : Nat → Nat} (C : xC p s m args meth c cX6_unfold 3 (some .int) yX6_unfold D K A []) : ∀ (M : S6) (t1 : Int32) (r : Int32 × (S6)), fX6_unfold_57  M t1 = some r → ∀ (H : Heap) (locs : List Loc) (ls : Array Slot), va_P D vwCl (w6 aM K M) H → va_D A (w6 aM K M) → va_S A s.heap H locs → lv_has ls 3 [(0, .ref (aM 0))] → W p l e (xR 6 142 (oX6_unfold aM K r)) s m args below meth c H locs 0 0 (xQ below args s D K A (oX6_unfold aM K r)) (F0 m 57 ls [.int t1, .ref (aM 0)]) := by
  obtain ⟨hx, hb, hr, hml, hown, hK, hts, hA, hG, hlk, hte, hnm⟩ := id C
  intro M t1 r h H locs ls hP hD hS hl
  replace h : (if M.2.2.2.2.1 = 0 then fX6_unfold_79 xF (t1, M.2.1, M.2.2.1, M.2.2.2.1, M.2.2.2.2.1, M.2.2.2.2.2.2.2.1, M.2.2.2.2.2.2.1, M.2.2.2.2.2.2.2.1, M.2.2.2.2.2.2.2.2.1, M.2.2.2.2.2.2.2.2.2.1, M.2.2.2.2.2.2.2.2.2.2.1, M.2.2.2.2.2.2.2.2.2.2.2.1, M.2.2.2.2.2.2.2.2.2.2.2.2.1, M.2.2.2.2.2.2.2.2.2.2.2.2.2.1, M.2.2.2.2.2.2.2.2.2.2.2.2.2.2.1, M.2.2.2.2.2.2.2.2.2.2.2.2.2.2.2.1, M.2.2.2.2.2.2.2.2.2.2.2.2.2.2.2.2.1, M.2.2.2.2.2.2.2.2.2.2.2.2.2.2.2.2.2.1, M.2.2.2.2.2.2.2.2.2.2.2.2.2.2.2.2.2.2.1, M.2.2.2.2.2.2.2.2.2.2.2.2.2.2.2.2.2.2.2.1, M.2.2.2.2.2.2.2.2.2.2.2.2.2.2.2.2.2.2.2.2) (0 : Int32) else some ((0 : Int32), (t1, M.2.1, M.2.2.1, M.2.2.2.1, M.2.2.2.2.1, M.2.2.2.2.2.1, M.2.2.2.2.2.2.1, M.2.2.2.2.2.2.2.1, M.2.2.2.2.2.2.2.2.1, M.2.2.2.2.2.2.2.2.2.1, M.2.2.2.2.2.2.2.2.2.2.1, M.2.2.2.2.2.2.2.2.2.2.2.1, M.2.2.2.2.2.2.2.2.2.2.2.2.1, M.2.2.2.2.2.2.2.2.2.2.2.2.2.1, M.2.2.2.2.2.2.2.2.2.2.2.2.2.2.1, M.2.2.2.2.2.2.2.2.2.2.2.2.2.2.2.1, M.2.2.2.2.2.2.2.2.2.2.2.2.2.2.2.2.1, M.2.2.2.2.2.2.2.2.2.2.2.2.2.2.2.2.2.1, M.2.2.2.2.2.2.2.2.2.2.2.2.2.2.2.2.2.2.1, M.2.2.2.2.2.2.2.2.2.2.2.2.2.2.2.2.2.2.2.1, M.2.2.2.2.2.2.2.2.2.2.2.2.2.2.2.2.2.2.2.2))) = some r := h
  refine va_put (D := D) (ci := 6) (v := .int t1) (ty := .int) (C := RX6) (T := TX6) (N := 21) hx hb hts xu_X6 tyX6 tyX6_ok nmX6 hown hK hP hD hS 0 rfl rfl 0 (by decide) (hts _ xw_507) (fun _ h9 => h9) rfl (by decide +kernel) rfl rfl (Nat.le_of_ble_eq_true rfl) dX6_unfold_57 (fun H locs hP hD hS => ?_)
  have hP : va_P D vwCl (w6 aM K (t1, M.2.1, M.2.2.1, M.2.2.2.1, M.2.2.2.2.1, M.2.2.2.2.2.1, M.2.2.2.2.2.2.1, M.2.2.2.2.2.2.2.1, M.2.2.2.2.2.2.2.2.1, M.2.2.2.2.2.2.2.2.2.1, M.2.2.2.2.2.2.2.2.2.2.1, M.2.2.2.2.2.2.2.2.2.2.2.1, M.2.2.2.2.2.2.2.2.2.2.2.2.1, M.2.2.2.2.2.2.2.2.2.2.2.2.2.1, M.2.2.2.2.2.2.2.2.2.2.2.2.2.2.1, M.2.2.2.2.2.2.2.2.2.2.2.2.2.2.2.1, M.2.2.2.2.2.2.2.2.2.2.2.2.2.2.2.2.1, M.2.2.2.2.2.2.2.2.2.2.2.2.2.2.2.2.2.1, M.2.2.2.2.2.2.2.2.2.2.2.2.2.2.2.2.2.2.1, M.2.2.2.2.2.2.2.2.2.2.2.2.2.2.2.2.2.2.2.1, M.2.2.2.2.2.2.2.2.2.2.2.2.2.2.2.2.2.2.2.2)) H := hP
  have hD : va_D A (w6 aM K (t1, M.2.1, M.2.2.1, M.2.2.2.1, M.2.2.2.2.1, M.2.2.2.2.2.1, M.2.2.2.2.2.2.1, M.2.2.2.2.2.2.2.1, M.2.2.2.2.2.2.2.2.1, M.2.2.2.2.2.2.2.2.2.1, M.2.2.2.2.2.2.2.2.2.2.1, M.2.2.2.2.2.2.2.2.2.2.2.1, M.2.2.2.2.2.2.2.2.2.2.2.2.1, M.2.2.2.2.2.2.2.2.2.2.2.2.2.1, M.2.2.2.2.2.2.2.2.2.2.2.2.2.2.1, M.2.2.2.2.2.2.2.2.2.2.2.2.2.2.2.1, M.2.2.2.2.2.2.2.2.2.2.2.2.2.2.2.2.1, M.2.2.2.2.2.2.2.2.2.2.2.2.2.2.2.2.2.1, M.2.2.2.2.2.2.2.2.2.2.2.2.2.2.2.2.2.2.1, M.2.2.2.2.2.2.2.2.2.2.2.2.2.2.2.2.2.2.2.1, M.2.2.2.2.2.2.2.2.2.2.2.2.2.2.2.2.2.2.2.2)) := hD
  refine lv_aload_n hx hb dX6_unfold_60 rfl (lv_at hl 0 rfl) ?_
  refine va_get (D := D) (ci := 6) (v := .int M.2.2.2.2.1) (C := RX6) (T := TX6) (N := 21) hx hb hts xu_X6 hown hK hP 0 rfl rfl 4 (by decide) (hts _ xw_511) (fun _ h9 => h9) rfl dX6_unfold_61 ?_
  refine lv_if_eq (tgt := 69) hx hb dX6_unfold_64 (by decide) (fun c9 => ?_) (fun c9 => ?_)
  · replace h := xi_t c9 h
    refine lv_aload_n hx hb dX6_unfold_69 rfl (lv_at hl 0 rfl) ?_
    refine lv_aload_n hx hb dX6_unfold_70 rfl (lv_at hl 0 rfl) ?_
    refine va_get (D := D) (ci := 6) (v := .int M.2.2.2.2.2.2.2.1) (C := RX6) (T := TX6) (N := 21) hx hb hts xu_X6 hown hK hP 0 rfl rfl 7 (by decide) (hts _ xw_514) (fun _ h9 => h9) rfl dX6_unfold_71 ?_
    refine va_put (D := D) (ci := 6) (v := .int M.2.2.2.2.2.2.2.1) (ty := .int) (C := RX6) (T := TX6) (N := 21) hx hb hts xu_X6 tyX6 tyX6_ok nmX6 hown hK hP hD hS 0 rfl rfl 5 (by decide) (hts _ xw_512) (fun _ h9 => h9) rfl (by decide +kernel) rfl rfl (Nat.le_of_ble_eq_true rfl) dX6_unfold_74 (fun H locs hP hD hS => ?_)
    have hP : va_P D vwCl (w6 aM K (t1, M.2.1, M.2.2.1, M.2.2.2.1, M.2.2.2.2.1, M.2.2.2.2.2.2.2.1, M.2.2.2.2.2.2.1, M.2.2.2.2.2.2.2.1, M.2.2.2.2.2.2.2.2.1, M.2.2.2.2.2.2.2.2.2.1, M.2.2.2.2.2.2.2.2.2.2.1, M.2.2.2.2.2.2.2.2.2.2.2.1, M.2.2.2.2.2.2.2.2.2.2.2.2.1, M.2.2.2.2.2.2.2.2.2.2.2.2.2.1, M.2.2.2.2.2.2.2.2.2.2.2.2.2.2.1, M.2.2.2.2.2.2.2.2.2.2.2.2.2.2.2.1, M.2.2.2.2.2.2.2.2.2.2.2.2.2.2.2.2.1, M.2.2.2.2.2.2.2.2.2.2.2.2.2.2.2.2.2.1, M.2.2.2.2.2.2.2.2.2.2.2.2.2.2.2.2.2.2.1, M.2.2.2.2.2.2.2.2.2.2.2.2.2.2.2.2.2.2.2.1, M.2.2.2.2.2.2.2.2.2.2.2.2.2.2.2.2.2.2.2.2)) H := hP
    have hD : va_D A (w6 aM K (t1, M.2.1, M.2.2.1, M.2.2.2.1, M.2.2.2.2.1, M.2.2.2.2.2.2.2.1, M.2.2.2.2.2.2.1, M.2.2.2.2.2.2.2.1, M.2.2.2.2.2.2.2.2.1, M.2.2.2.2.2.2.2.2.2.1, M.2.2.2.2.2.2.2.2.2.2.1, M.2.2.2.2.2.2.2.2.2.2.2.1, M.2.2.2.2.2.2.2.2.2.2.2.2.1, M.2.2.2.2.2.2.2.2.2.2.2.2.2.1, M.2.2.2.2.2.2.2.2.2.2.2.2.2.2.1, M.2.2.2.2.2.2.2.2.2.2.2.2.2.2.2.1, M.2.2.2.2.2.2.2.2.2.2.2.2.2.2.2.2.1, M.2.2.2.2.2.2.2.2.2.2.2.2.2.2.2.2.2.1, M.2.2.2.2.2.2.2.2.2.2.2.2.2.2.2.2.2.2.1, M.2.2.2.2.2.2.2.2.2.2.2.2.2.2.2.2.2.2.2.1, M.2.2.2.2.2.2.2.2.2.2.2.2.2.2.2.2.2.2.2.2)) := hD
    refine lv_iconst (v := (0 : Int32)) hx hb dX6_unfold_77 (by decide) ?_
    refine lv_istore_n (lv' := [(2, .int (0 : Int32)), (0, .ref (aM 0))]) hx hb dX6_unfold_78 rfl hl (by decide) rfl (fun ls hl => ?_)
    exact kX6_unfold_79 C _ _ _ _ h _ _ _ hP hD hS (lv_sub hl [1, 0] rfl)
  · replace h := xi_f c9 h
    refine lv_iconst (v := (0 : Int32)) hx hb dX6_unfold_67 (by decide) ?_
    obtain rfl := Option.some.inj h
    exact xe_i C hP hD hS dX6_unfold_68
set_option maxHeartbeats 4000000 in
set_option maxRecDepth 100000 in
theorem kX6_unfold_44 {p : Program} {l : Launch} {e : Env} {s : State} {m : MethodId} {args : Array Value} {below : List Frame} {meth : Method} {c : Code} {D : va_G} {K : Nat → ClassId} {A : Nat → Prop} {aM : Nat → Nat} (C : xC p s m args meth c cX6_unfold 3 (some .int) yX6_unfold D K A []) : ∀ (M : S6) (r : Int32 × (S6)), fX6_unfold_44  M = some r → ∀ (H : Heap) (locs : List Loc) (ls : Array Slot), va_P D vwCl (w6 aM K M) H → va_D A (w6 aM K M) → va_S A s.heap H locs → lv_has ls 3 [(0, .ref (aM 0))] → W p l e (xR 6 142 (oX6_unfold aM K r)) s m args below meth c H locs 0 0 (xQ below args s D K A (oX6_unfold aM K r)) (F0 m 44 ls []) := by
  obtain ⟨hx, hb, hr, hml, hown, hK, hts, hA, hG, hlk, hte, hnm⟩ := id C
  intro M r h H locs ls hP hD hS hl
  replace h : (if M.2.2.2.2.1 = 0 then fX6_unfold_57 M (0 : Int32) else fX6_unfold_57 M (1 : Int32)) = some r := h
  refine lv_aload_n hx hb dX6_unfold_44 rfl (lv_at hl 0 rfl) ?_
  refine lv_aload_n hx hb dX6_unfold_45 rfl (lv_at hl 0 rfl) ?_
  refine va_get (D := D) (ci := 6) (v := .int M.2.2.2.2.1) (C := RX6) (T := TX6) (N := 21) hx hb hts xu_X6 hown hK hP 0 rfl rfl 4 (by decide) (hts _ xw_511) (fun _ h9 => h9) rfl dX6_unfold_46 ?_
  refine lv_if_eq (tgt := 56) hx hb dX6_unfold_49 (by decide) (fun c9 => ?_) (fun c9 => ?_)
  · replace h := xi_t c9 h
    refine lv_iconst (v := (0 : Int32)) hx hb dX6_unfold_56 (by decide) ?_
    exact kX6_unfold_57 C _ _ _ h _ _ _ hP hD hS (lv_sub hl [0] rfl)
  · replace h := xi_f c9 h
    refine lv_iconst (v := (1 : Int32)) hx hb dX6_unfold_52 (by decide) ?_
    refine lv_goto (tgt := 57) hx hb dX6_unfold_53 (by decide) ?_
    exact kX6_unfold_57 C _ _ _ h _ _ _ hP hD hS (lv_sub hl [0] rfl)
set_option maxHeartbeats 4000000 in
set_option maxRecDepth 100000 in
theorem kX6_unfold_25 {p : Program} {l : Launch} {e : Env} {s : State} {m : MethodId} {args : Array Value} {below : List Frame} {meth : Method} {c : Code} {D : va_G} {K : Nat → ClassId} {A : Nat → Prop} {aM : Nat → Nat} (C : xC p s m args meth c cX6_unfold 3 (some .int) yX6_unfold D K A []) : ∀ fu : Nat, ∀ (M : S6) (x1 : Int32) (r : Int32 × (S6)), fX6_unfold_25 fu M x1 = some r → ∀ (H : Heap) (locs : List Loc) (ls : Array Slot), va_P D vwCl (w6 aM K M) H → va_D A (w6 aM K M) → va_S A s.heap H locs → lv_has ls 3 [(0, .ref (aM 0)), (1, .int x1)] → W p l e (xR 6 142 (oX6_unfold aM K r)) s m args below meth c H locs 0 0 (xQ below args s D K A (oX6_unfold aM K r)) (F0 m 25 ls []) := by
  obtain ⟨hx, hb, hr, hml, hown, hK, hts, hA, hG, hlk, hte, hnm⟩ := id C
  intro fu
  induction fu with
  | zero =>
    intro M x1 r h
    exact nomatch (show (none : Option (Int32 × (S6))) = some r from h)
  | succ fu ih =>
    intro M x1 r h H locs ls hP hD hS hl
    replace h : (if x1 = 0 then (if M.2.2.2.2.1 = 0 then xbnd0 (fX6_block M) (fun v_3 s_4 => fX6_unfold_25 fu s_4 v_3) else fX6_unfold_44 M) else fX6_unfold_44 M) = some r := h
    refine lv_iload_n hx hb dX6_unfold_25 rfl (lv_at hl 1 rfl) ?_
    refine lv_if_ne (tgt := 44) hx hb dX6_unfold_26 (by decide) (fun c9 => ?_) (fun c9 => ?_)
    · replace h := xi_f c9 h
      exact kX6_unfold_44 C _ _ h _ _ _ hP hD hS (lv_sub hl [0] rfl)
    · replace h := xi_t c9 h
      refine lv_aload_n hx hb dX6_unfold_29 rfl (lv_at hl 0 rfl) ?_
      refine va_get (D := D) (ci := 6) (v := .int M.2.2.2.2.1) (C := RX6) (T := TX6) (N := 21) hx hb hts xu_X6 hown hK hP 0 rfl rfl 4 (by decide) (hts _ xw_511) (fun _ h9 => h9) rfl dX6_unfold_30 ?_
      refine lv_if_ne (tgt := 44) hx hb dX6_unfold_33 (by decide) (fun c9 => ?_) (fun c9 => ?_)
      · replace h := xi_f c9 h
        exact kX6_unfold_44 C _ _ h _ _ _ hP hD hS (lv_sub hl [0] rfl)
      · replace h := xi_t c9 h
        refine lv_aload_n hx hb dX6_unfold_36 rfl (lv_at hl 0 rfl) ?_
        obtain ⟨v_3, s_4, hc9, h⟩ := xi_d h
        refine xc_V (As := []) (ws' := w6 aM K s_4) C (mX6_block l D K aM _ _ _ hc9) xgi_X6_141 xd_X6_block ⟨Nat.le_of_ble_eq_true rfl, Nat.le_of_ble_eq_true rfl⟩ ⟨Nat.zero_le _, Nat.zero_le _⟩ hl rfl (Nat.le_of_ble_eq_true rfl) dX6_unfold_37 hP hD hS 0 6 rfl rfl rfl [0, 1, 2, 3, 4, 5, 6, 7, 8, 9, 10, 11] rfl rfl [(0, w6 aM K s_4)] rfl rfl rfl (List.forall_mem_cons.mpr ⟨Nat.le_of_ble_eq_true rfl, (fun _ h => absurd h List.not_mem_nil)⟩) (fun H locs hP hD hS => ?_)
        refine W.eq (g2 := F0 m 40 ls [.int v_3]) rfl ?_
        refine lv_istore_n (lv' := [(1, .int v_3), (0, .ref (aM 0))]) hx hb dX6_unfold_40 rfl hl (by decide) rfl (fun ls hl => ?_)
        refine lv_goto (tgt := 25) hx hb dX6_unfold_41 (by decide) ?_
        exact ih _ _ _ h _ _ _ hP hD hS (lv_sub hl [1, 0] rfl)
set_option maxHeartbeats 4000000 in
set_option maxRecDepth 100000 in
theorem mX6_unfold (l : Launch) (D : va_G) (K : Nat → ClassId) (aM : Nat → Nat) (sz : Nat) (M : S6) (r : Int32 × (S6)) (h : fX6_unfold M = some r) : xMet l yX6_unfold cX6_unfold 3 (some .int) 6 142 D K [.ref (aM 0)] sz (w6 aM K M) (oX6_unfold aM K r) := by
  refine xm_of _ (by decide +kernel) (Nat.le_of_ble_eq_true rfl) (fun p e s m args below meth c A C hP hD ls hl => ?_)
  have hl : lv_has ls 3 [(0, .ref (aM 0))] := hl
  have hS : va_S A s.heap s.heap [] := va_S.rf
  obtain ⟨hx, hb, hr, hml, hown, hK, hts, hA, hG, hlk, hte, hnm⟩ := id C
  replace h : xbnd0 (fX6_first 9 M.2.2.2.2.2.2.2.2.2.2.1) (fun v_1 s_2 => fX6_unfold_25 xF (M.1, M.2.1, M.2.2.1, (0 : Int32), (0 : Int32), M.2.2.2.2.2.1, M.2.2.2.2.2.2.1, (0 : Int32), M.2.2.2.2.2.2.2.2.1, M.2.2.2.2.2.2.2.2.2.1, s_2, M.2.2.2.2.2.2.2.2.2.2.2.1, M.2.2.2.2.2.2.2.2.2.2.2.2.1, M.2.2.2.2.2.2.2.2.2.2.2.2.2.1, M.2.2.2.2.2.2.2.2.2.2.2.2.2.2.1, M.2.2.2.2.2.2.2.2.2.2.2.2.2.2.2.1, M.2.2.2.2.2.2.2.2.2.2.2.2.2.2.2.2.1, M.2.2.2.2.2.2.2.2.2.2.2.2.2.2.2.2.2.1, M.2.2.2.2.2.2.2.2.2.2.2.2.2.2.2.2.2.2.1, M.2.2.2.2.2.2.2.2.2.2.2.2.2.2.2.2.2.2.2.1, M.2.2.2.2.2.2.2.2.2.2.2.2.2.2.2.2.2.2.2.2) (0 : Int32)) = some r := h
  refine lv_aload_n hx hb dX6_unfold_0 rfl (lv_at hl 0 rfl) ?_
  refine lv_iconst (v := (0 : Int32)) hx hb dX6_unfold_1 (by decide) ?_
  refine va_put (D := D) (ci := 6) (v := .int (0 : Int32)) (ty := .int) (C := RX6) (T := TX6) (N := 21) hx hb hts xu_X6 tyX6 tyX6_ok nmX6 hown hK hP hD hS 0 rfl rfl 3 (by decide) (hts _ xw_510) (fun _ h9 => h9) rfl (by decide +kernel) rfl rfl (Nat.le_of_ble_eq_true rfl) dX6_unfold_2 (fun H locs hP hD hS => ?_)
  have hP : va_P D vwCl (w6 aM K (M.1, M.2.1, M.2.2.1, (0 : Int32), M.2.2.2.2.1, M.2.2.2.2.2.1, M.2.2.2.2.2.2.1, M.2.2.2.2.2.2.2.1, M.2.2.2.2.2.2.2.2.1, M.2.2.2.2.2.2.2.2.2.1, M.2.2.2.2.2.2.2.2.2.2.1, M.2.2.2.2.2.2.2.2.2.2.2.1, M.2.2.2.2.2.2.2.2.2.2.2.2.1, M.2.2.2.2.2.2.2.2.2.2.2.2.2.1, M.2.2.2.2.2.2.2.2.2.2.2.2.2.2.1, M.2.2.2.2.2.2.2.2.2.2.2.2.2.2.2.1, M.2.2.2.2.2.2.2.2.2.2.2.2.2.2.2.2.1, M.2.2.2.2.2.2.2.2.2.2.2.2.2.2.2.2.2.1, M.2.2.2.2.2.2.2.2.2.2.2.2.2.2.2.2.2.2.1, M.2.2.2.2.2.2.2.2.2.2.2.2.2.2.2.2.2.2.2.1, M.2.2.2.2.2.2.2.2.2.2.2.2.2.2.2.2.2.2.2.2)) H := hP
  have hD : va_D A (w6 aM K (M.1, M.2.1, M.2.2.1, (0 : Int32), M.2.2.2.2.1, M.2.2.2.2.2.1, M.2.2.2.2.2.2.1, M.2.2.2.2.2.2.2.1, M.2.2.2.2.2.2.2.2.1, M.2.2.2.2.2.2.2.2.2.1, M.2.2.2.2.2.2.2.2.2.2.1, M.2.2.2.2.2.2.2.2.2.2.2.1, M.2.2.2.2.2.2.2.2.2.2.2.2.1, M.2.2.2.2.2.2.2.2.2.2.2.2.2.1, M.2.2.2.2.2.2.2.2.2.2.2.2.2.2.1, M.2.2.2.2.2.2.2.2.2.2.2.2.2.2.2.1, M.2.2.2.2.2.2.2.2.2.2.2.2.2.2.2.2.1, M.2.2.2.2.2.2.2.2.2.2.2.2.2.2.2.2.2.1, M.2.2.2.2.2.2.2.2.2.2.2.2.2.2.2.2.2.2.1, M.2.2.2.2.2.2.2.2.2.2.2.2.2.2.2.2.2.2.2.1, M.2.2.2.2.2.2.2.2.2.2.2.2.2.2.2.2.2.2.2.2)) := hD
  refine lv_aload_n hx hb dX6_unfold_5 rfl (lv_at hl 0 rfl) ?_
  refine lv_iconst (v := (0 : Int32)) hx hb dX6_unfold_6 (by decide) ?_
  refine va_put (D := D) (ci := 6) (v := .int (0 : Int32)) (ty := .int) (C := RX6) (T := TX6) (N := 21) hx hb hts xu_X6 tyX6 tyX6_ok nmX6 hown hK hP hD hS 0 rfl rfl 7 (by decide) (hts _ xw_514) (fun _ h9 => h9) rfl (by decide +kernel) rfl rfl (Nat.le_of_ble_eq_true rfl) dX6_unfold_7 (fun H locs hP hD hS => ?_)
  have hP : va_P D vwCl (w6 aM K (M.1, M.2.1, M.2.2.1, (0 : Int32), M.2.2.2.2.1, M.2.2.2.2.2.1, M.2.2.2.2.2.2.1, (0 : Int32), M.2.2.2.2.2.2.2.2.1, M.2.2.2.2.2.2.2.2.2.1, M.2.2.2.2.2.2.2.2.2.2.1, M.2.2.2.2.2.2.2.2.2.2.2.1, M.2.2.2.2.2.2.2.2.2.2.2.2.1, M.2.2.2.2.2.2.2.2.2.2.2.2.2.1, M.2.2.2.2.2.2.2.2.2.2.2.2.2.2.1, M.2.2.2.2.2.2.2.2.2.2.2.2.2.2.2.1, M.2.2.2.2.2.2.2.2.2.2.2.2.2.2.2.2.1, M.2.2.2.2.2.2.2.2.2.2.2.2.2.2.2.2.2.1, M.2.2.2.2.2.2.2.2.2.2.2.2.2.2.2.2.2.2.1, M.2.2.2.2.2.2.2.2.2.2.2.2.2.2.2.2.2.2.2.1, M.2.2.2.2.2.2.2.2.2.2.2.2.2.2.2.2.2.2.2.2)) H := hP
  have hD : va_D A (w6 aM K (M.1, M.2.1, M.2.2.1, (0 : Int32), M.2.2.2.2.1, M.2.2.2.2.2.1, M.2.2.2.2.2.2.1, (0 : Int32), M.2.2.2.2.2.2.2.2.1, M.2.2.2.2.2.2.2.2.2.1, M.2.2.2.2.2.2.2.2.2.2.1, M.2.2.2.2.2.2.2.2.2.2.2.1, M.2.2.2.2.2.2.2.2.2.2.2.2.1, M.2.2.2.2.2.2.2.2.2.2.2.2.2.1, M.2.2.2.2.2.2.2.2.2.2.2.2.2.2.1, M.2.2.2.2.2.2.2.2.2.2.2.2.2.2.2.1, M.2.2.2.2.2.2.2.2.2.2.2.2.2.2.2.2.1, M.2.2.2.2.2.2.2.2.2.2.2.2.2.2.2.2.2.1, M.2.2.2.2.2.2.2.2.2.2.2.2.2.2.2.2.2.2.1, M.2.2.2.2.2.2.2.2.2.2.2.2.2.2.2.2.2.2.2.1, M.2.2.2.2.2.2.2.2.2.2.2.2.2.2.2.2.2.2.2.2)) := hD
  refine lv_aload_n hx hb dX6_unfold_10 rfl (lv_at hl 0 rfl) ?_
  refine lv_iconst (v := (0 : Int32)) hx hb dX6_unfold_11 (by decide) ?_
  refine va_put (D := D) (ci := 6) (v := .int (0 : Int32)) (ty := .boolean) (C := RX6) (T := TX6) (N := 21) hx hb hts xu_X6 tyX6 tyX6_ok nmX6 hown hK hP hD hS 0 rfl rfl 4 (by decide) (hts _ xw_511) (fun _ h9 => h9) rfl (by decide +kernel) rfl rfl (Nat.le_of_ble_eq_true rfl) dX6_unfold_12 (fun H locs hP hD hS => ?_)
  have hP : va_P D vwCl (w6 aM K (M.1, M.2.1, M.2.2.1, (0 : Int32), (0 : Int32), M.2.2.2.2.2.1, M.2.2.2.2.2.2.1, (0 : Int32), M.2.2.2.2.2.2.2.2.1, M.2.2.2.2.2.2.2.2.2.1, M.2.2.2.2.2.2.2.2.2.2.1, M.2.2.2.2.2.2.2.2.2.2.2.1, M.2.2.2.2.2.2.2.2.2.2.2.2.1, M.2.2.2.2.2.2.2.2.2.2.2.2.2.1, M.2.2.2.2.2.2.2.2.2.2.2.2.2.2.1, M.2.2.2.2.2.2.2.2.2.2.2.2.2.2.2.1, M.2.2.2.2.2.2.2.2.2.2.2.2.2.2.2.2.1, M.2.2.2.2.2.2.2.2.2.2.2.2.2.2.2.2.2.1, M.2.2.2.2.2.2.2.2.2.2.2.2.2.2.2.2.2.2.1, M.2.2.2.2.2.2.2.2.2.2.2.2.2.2.2.2.2.2.2.1, M.2.2.2.2.2.2.2.2.2.2.2.2.2.2.2.2.2.2.2.2)) H := hP
  have hD : va_D A (w6 aM K (M.1, M.2.1, M.2.2.1, (0 : Int32), (0 : Int32), M.2.2.2.2.2.1, M.2.2.2.2.2.2.1, (0 : Int32), M.2.2.2.2.2.2.2.2.1, M.2.2.2.2.2.2.2.2.2.1, M.2.2.2.2.2.2.2.2.2.2.1, M.2.2.2.2.2.2.2.2.2.2.2.1, M.2.2.2.2.2.2.2.2.2.2.2.2.1, M.2.2.2.2.2.2.2.2.2.2.2.2.2.1, M.2.2.2.2.2.2.2.2.2.2.2.2.2.2.1, M.2.2.2.2.2.2.2.2.2.2.2.2.2.2.2.1, M.2.2.2.2.2.2.2.2.2.2.2.2.2.2.2.2.1, M.2.2.2.2.2.2.2.2.2.2.2.2.2.2.2.2.2.1, M.2.2.2.2.2.2.2.2.2.2.2.2.2.2.2.2.2.2.1, M.2.2.2.2.2.2.2.2.2.2.2.2.2.2.2.2.2.2.2.1, M.2.2.2.2.2.2.2.2.2.2.2.2.2.2.2.2.2.2.2.2)) := hD
  refine lv_aload_n hx hb dX6_unfold_15 rfl (lv_at hl 0 rfl) ?_
  refine lv_aload_n hx hb dX6_unfold_16 rfl (lv_at hl 0 rfl) ?_
  refine va_get (D := D) (ci := 6) (v := .ref (aM 5)) (C := RX6) (T := TX6) (N := 21) hx hb hts xu_X6 hown hK hP 0 rfl rfl 10 (by decide) (hts _ xw_517) (fun _ h9 => h9) rfl dX6_unfold_17 ?_
  obtain ⟨v_1, s_2, hc9, h⟩ := xi_d h
  refine xc_V (As := [.ref (aM 5)]) (ws' := w6 aM K (M.1, M.2.1, M.2.2.1, (0 : Int32), (0 : Int32), M.2.2.2.2.2.1, M.2.2.2.2.2.2.1, (0 : Int32), M.2.2.2.2.2.2.2.2.1, M.2.2.2.2.2.2.2.2.2.1, s_2, M.2.2.2.2.2.2.2.2.2.2.2.1, M.2.2.2.2.2.2.2.2.2.2.2.2.1, M.2.2.2.2.2.2.2.2.2.2.2.2.2.1, M.2.2.2.2.2.2.2.2.2.2.2.2.2.2.1, M.2.2.2.2.2.2.2.2.2.2.2.2.2.2.2.1, M.2.2.2.2.2.2.2.2.2.2.2.2.2.2.2.2.1, M.2.2.2.2.2.2.2.2.2.2.2.2.2.2.2.2.2.1, M.2.2.2.2.2.2.2.2.2.2.2.2.2.2.2.2.2.2.1, M.2.2.2.2.2.2.2.2.2.2.2.2.2.2.2.2.2.2.2.1, M.2.2.2.2.2.2.2.2.2.2.2.2.2.2.2.2.2.2.2.2)) C (mX6_first l D K (aM 0) (aM 5) 9 _ _ _ hc9) xgi_X6_44 xd_X6_first ⟨Nat.le_of_ble_eq_true rfl, Nat.le_of_ble_eq_true rfl⟩ ⟨Nat.zero_le _, Nat.zero_le _⟩ hl rfl (Nat.le_of_ble_eq_true rfl) dX6_unfold_20 hP hD hS 0 6 rfl rfl rfl [5] rfl rfl [(5, [((aM 5), .inl (K 0, 9, .inl s_2))])] rfl rfl rfl (List.forall_mem_cons.mpr ⟨Nat.le_of_ble_eq_true rfl, (fun _ h => absurd h List.not_mem_nil)⟩) (fun H locs hP hD hS => ?_)
  refine W.eq (g2 := F0 m 23 ls []) rfl ?_
  refine lv_iconst (v := (0 : Int32)) hx hb dX6_unfold_23 (by decide) ?_
  refine lv_istore_n (lv' := [(1, .int (0 : Int32)), (0, .ref (aM 0))]) hx hb dX6_unfold_24 rfl hl (by decide) rfl (fun ls hl => ?_)
  exact kX6_unfold_25 C _ _ _ _ h _ _ _ hP hD hS (lv_sub hl [1, 0] rfl)
