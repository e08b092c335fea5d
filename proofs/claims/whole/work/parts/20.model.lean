abbrev oX6_first (aF : Nat) (N : Nat) (K : Nat → ClassId) (q : Unit × ((Nat → Int32))) : xO := .inr (none, [(aF, .inl (K 0, N, .inl q.2))])
def fX6_first_2 (N : Nat) : Nat → (Nat → Int32) → Int32 → Option (Unit × ((Nat → Int32)))
  | 0 => fun _ _ => none
  | fu + 1 => fun F x2 => (if (5 : Int32) ≤ x2 then (if (5 : Int32) < 0 ∨ N ≤ ((5 : Int32)).toNatClampNeg then none else (if (6 : Int32) < 0 ∨ N ≤ ((6 : Int32)).toNatClampNeg then none else (if (7 : Int32) < 0 ∨ N ≤ ((7 : Int32)).toNatClampNeg then none else (if (8 : Int32) < 0 ∨ N ≤ ((8 : Int32)).toNatClampNeg then none else some ((), (upd (upd (upd (upd F ((5 : Int32)).toNatClampNeg (4 : Int32)) ((6 : Int32)).toNatClampNeg (11 : Int32)) ((7 : Int32)).toNatClampNeg (15 : Int32)) ((8 : Int32)).toNatClampNeg (16 : Int32))))))) else (if x2 < 0 ∨ N ≤ (x2).toNatClampNeg then none else fX6_first_2 N fu (upd F (x2).toNatClampNeg (0 : Int32)) (x2 + (1 : Int32))))
def fX6_first (N : Nat) (F : (Nat → Int32)) : Option (Unit × ((Nat → Int32))) := fX6_first_2 N xF F (0 : Int32)
set_option maxHeartbeats 4000000 in
set_option maxRecDepth 100000 in
theorem kX6_first_2 {p : Program} {l : Launch} {e : Env} {s : State} {m : MethodId} {args : Array Value} {below : List Frame} {meth : Method} {c : Code} {D : va_G} {K : Nat → ClassId} {A : Nat → Prop} {aF : Nat} {N : Nat} (C : xC p s m args meth c cX6_first 3 none yX6_first D K A []) : ∀ fu : Nat, ∀ (F : (Nat → Int32)) (x2 : Int32) (r : Unit × ((Nat → Int32))), fX6_first_2 N fu F x2 = some r → ∀ (H : Heap) (locs : List Loc) (ls : Array Slot), va_P D vwCl ([(aF, .inl (K 0, N, .inl F))]) H → va_D A ([(aF, .inl (K 0, N, .inl F))]) → va_S A s.heap H locs → lv_has ls 3 [(1, .ref aF), (2, .int x2)] → W p l e (xR 0 0 (oX6_first aF N K r)) s m args below meth c H locs 0 0 (xQ below args s D K A (oX6_first aF N K r)) (F0 m 2 ls []) := by
  obtain ⟨hx, hb, hr, hml, hown, hK, hts, hA, hG, hlk, hte, hnm⟩ := id C
  intro fu
  induction fu with
  | zero =>
    intro F x2 r h
    exact nomatch (show (none : Option (Unit × ((Nat → Int32)))) = some r from h)
  | succ fu ih =>
    intro F x2 r h H locs ls hP hD hS hl
    replace h : (if (5 : Int32) ≤ x2 then (if (5 : Int32) < 0 ∨ N ≤ ((5 : Int32)).toNatClampNeg then none else (if (6 : Int32) < 0 ∨ N ≤ ((6 : Int32)).toNatClampNeg then none else (if (7 : Int32) < 0 ∨ N ≤ ((7 : Int32)).toNatClampNeg then none else (if (8 : Int32) < 0 ∨ N ≤ ((8 : Int32)).toNatClampNeg then none else some ((), (upd (upd (upd (upd F ((5 : Int32)).toNatClampNeg (4 : Int32)) ((6 : Int32)).toNatClampNeg (11 : Int32)) ((7 : Int32)).toNatClampNeg (15 : Int32)) ((8 : Int32)).toNatClampNeg (16 : Int32))))))) else (if x2 < 0 ∨ N ≤ (x2).toNatClampNeg then none else fX6_first_2 N fu (upd F (x2).toNatClampNeg (0 : Int32)) (x2 + (1 : Int32)))) = some r := h
    refine lv_iload_n hx hb dX6_first_2 rfl (lv_at hl 1 rfl) ?_
    refine lv_iconst (v := (5 : Int32)) hx hb dX6_first_3 (by decide) ?_
    refine lv_icmp_ge (tgt := 17) hx hb dX6_first_4 (by decide) (fun c9 => ?_) (fun c9 => ?_)
    · replace h := xi_t c9 h
      refine lv_aload_n hx hb dX6_first_17 rfl (lv_at hl 0 rfl) ?_
      refine lv_iconst (v := (5 : Int32)) hx hb dX6_first_18 (by decide) ?_
      refine lv_iconst (v := (4 : Int32)) hx hb dX6_first_19 (by decide) ?_
      obtain ⟨hi9, h⟩ := xi_g h
      refine va_iast hx hb hK hP hD hS 0 0 rfl rfl hi9 dX6_first_20 (fun H locs hP hD hS => ?_)
      have hP : va_P D vwCl ([(aF, .inl (K 0, N, .inl (upd F ((5 : Int32)).toNatClampNeg (4 : Int32))))]) H := hP
      have hD : va_D A ([(aF, .inl (K 0, N, .inl (upd F ((5 : Int32)).toNatClampNeg (4 : Int32))))]) := hD
      refine lv_aload_n hx hb dX6_first_21 rfl (lv_at hl 0 rfl) ?_
      refine lv_bipush (v := (6 : Int32)) hx hb dX6_first_22 (by decide) ?_
      refine lv_bipush (v := (11 : Int32)) hx hb dX6_first_24 (by decide) ?_
      obtain ⟨hi9, h⟩ := xi_g h
      refine va_iast hx hb hK hP hD hS 0 0 rfl rfl hi9 dX6_first_26 (fun H locs hP hD hS => ?_)
      have hP : va_P D vwCl ([(aF, .inl (K 0, N, .inl (upd (upd F ((5 : Int32)).toNatClampNeg (4 : Int32)) ((6 : Int32)).toNatClampNeg (11 : Int32))))]) H := hP
      have hD : va_D A ([(aF, .inl (K 0, N, .inl (upd (upd F ((5 : Int32)).toNatClampNeg (4 : Int32)) ((6 : Int32)).toNatClampNeg (11 : Int32))))]) := hD
      refine lv_aload_n hx hb dX6_first_27 rfl (lv_at hl 0 rfl) ?_
      refine lv_bipush (v := (7 : Int32)) hx hb dX6_first_28 (by decide) ?_
      refine lv_bipush (v := (15 : Int32)) hx hb dX6_first_30 (by decide) ?_
      obtain ⟨hi9, h⟩ := xi_g h
      refine va_iast hx hb hK hP hD hS 0 0 rfl rfl hi9 dX6_first_32 (fun H locs hP hD hS => ?_)
      have hP : va_P D vwCl ([(aF, .inl (K 0, N, .inl (upd (upd (upd F ((5 : Int32)).toNatClampNeg (4 : Int32)) ((6 : Int32)).toNatClampNeg (11 : Int32)) ((7 : Int32)).toNatClampNeg (15 : Int32))))]) H := hP
      have hD : va_D A ([(aF, .inl (K 0, N, .inl (upd (upd (upd F ((5 : Int32)).toNatClampNeg (4 : Int32)) ((6 : Int32)).toNatClampNeg (11 : Int32)) ((7 : Int32)).toNatClampNeg (15 : Int32))))]) := hD
      refine lv_aload_n hx hb dX6_first_33 rfl (lv_at hl 0 rfl) ?_
      refine lv_bipush (v := (8 : Int32)) hx hb dX6_first_34 (by decide) ?_
      refine lv_bipush (v := (16 : Int32)) hx hb dX6_first_36 (by decide) ?_
      obtain ⟨hi9, h⟩ := xi_g h
      refine va_iast hx hb hK hP hD hS 0 0 rfl rfl hi9 dX6_first_38 (fun H locs hP hD hS => ?_)
      have hP : va_P D vwCl ([(aF, .inl (K 0, N, .inl (upd (upd (upd (upd F ((5 : Int32)).toNatClampNeg (4 : Int32)) ((6 : Int32)).toNatClampNeg (11 : Int32)) ((7 : Int32)).toNatClampNeg (15 : Int32)) ((8 : Int32)).toNatClampNeg (16 : Int32))))]) H := hP
      have hD : va_D A ([(aF, .inl (K 0, N, .inl (upd (upd (upd (upd F ((5 : Int32)).toNatClampNeg (4 : Int32)) ((6 : Int32)).toNatClampNeg (11 : Int32)) ((7 : Int32)).toNatClampNeg (15 : Int32)) ((8 : Int32)).toNatClampNeg (16 : Int32))))]) := hD
      obtain rfl := Option.some.inj h
      exact xe_v C hP hD hS dX6_first_39
    · replace h := xi_f c9 h
      refine lv_aload_n hx hb dX6_first_7 rfl (lv_at hl 0 rfl) ?_
      refine lv_iload_n hx hb dX6_first_8 rfl (lv_at hl 1 rfl) ?_
      refine lv_iconst (v := (0 : Int32)) hx hb dX6_first_9 (by decide) ?_
      obtain ⟨hi9, h⟩ := xi_g h
      refine va_iast hx hb hK hP hD hS 0 0 rfl rfl hi9 dX6_first_10 (fun H locs hP hD hS => ?_)
      have hP : va_P D vwCl ([(aF, .inl (K 0, N, .inl (upd F (x2).toNatClampNeg (0 : Int32))))]) H := hP
      have hD : va_D A ([(aF, .inl (K 0, N, .inl (upd F (x2).toNatClampNeg (0 : Int32))))]) := hD
      refine lv_iinc (v := (x2 + (1 : Int32))) (lv' := [(2, .int (x2 + (1 : Int32))), (1, .ref aF)]) hx hb dX6_first_11 hl (k := 1) rfl (by rfl) (by decide) rfl (fun ls hl => ?_)
      refine lv_goto (tgt := 2) hx hb dX6_first_14 (by decide) ?_
      exact ih _ _ _ h _ _ _ hP hD hS (lv_sub hl [1, 0] rfl)
set_option maxHeartbeats 4000000 in
set_option maxRecDepth 100000 in
theorem mX6_first (l : Launch) (D : va_G) (K : Nat → ClassId) (b0 : Nat) (aF : Nat) (N : Nat) (sz : Nat) (F : (Nat → Int32)) (r : Unit × ((Nat → Int32))) (h : fX6_first N F = some r) : xMet l yX6_first cX6_first 3 none 0 0 D K [.ref b0, .ref aF] sz ([(aF, .inl (K 0, N, .inl F))]) (oX6_first aF N K r) := by
  refine xm_of _ (by decide +kernel) (Nat.le_of_ble_eq_true rfl) (fun p e s m args below meth c A C hP hD ls hl => ?_)
  have hl : lv_has ls 3 [(0, .ref b0), (1, .ref aF)] := hl
  have hS : va_S A s.heap s.heap [] := va_S.rf
  obtain ⟨hx, hb, hr, hml, hown, hK, hts, hA, hG, hlk, hte, hnm⟩ := id C
  replace h : fX6_first_2 N xF F (0 : Int32) = some r := h
  refine lv_iconst (v := (0 : Int32)) hx hb dX6_first_0 (by decide) ?_
  refine lv_istore_n (lv' := [(2, .int (0 : Int32)), (0, .ref b0), (1, .ref aF)]) hx hb dX6_first_1 rfl hl (by decide) rfl (fun ls hl => ?_)
  exact kX6_first_2 C _ _ _ _ h _ _ _ hP hD hS (lv_sub hl [2, 0] rfl)
abbrev oX6_thrown (aM : Nat → Nat) (K : Nat → ClassId) (q : Int32 × (S6)) : xO := .inr ((some (.int q.1)), w6 aM K q.2)
def fX6_thrown (M : S6) : Option (Int32 × (S6)) := some (M.1, M)
set_option maxHeartbeats 4000000 in
set_option maxRecDepth 100000 in
theorem mX6_thrown (l : Launch) (D : va_G) (K : Nat → ClassId) (aM : Nat → Nat) (sz : Nat) (M : S6) (r : Int32 × (S6)) (h : fX6_thrown M = some r) : xMet l yX6_thrown cX6_thrown 1 (some .int) 0 0 D K [.ref (aM 0)] sz (w6 aM K M) (oX6_thrown aM K r) := by
  refine xm_of _ (by decide +kernel) (Nat.le_of_ble_eq_true rfl) (fun p e s m args below meth c A C hP hD ls hl => ?_)
  have hl : lv_has ls 1 [(0, .ref (aM 0))] := hl
  have hS : va_S A s.heap s.heap [] := va_S.rf
  obtain ⟨hx, hb, hr, hml, hown, hK, hts, hA, hG, hlk, hte, hnm⟩ := id C
  replace h : some (M.1, M) = some r := h
  refine lv_aload_n hx hb dX6_thrown_0 rfl (lv_at hl 0 rfl) ?_
  refine va_get (D := D) (ci := 6) (v := .int M.1) (C := RX6) (T := TX6) (N := 21) hx hb hts xu_X6 hown hK hP 0 rfl rfl 0 (by decide) (hts _ xw_507) (fun _ h9 => h9) rfl dX6_thrown_1 ?_
  obtain rfl := Option.some.inj h
  exact xe_i C hP hD hS dX6_thrown_4
abbrev oX6_put (aM : Nat → Nat) (K : Nat → ClassId) (q : Int32 × (S6)) : xO := .inr ((some (.int q.1)), w6 aM K q.2)
def fX6_put_100 (rec71 : S6 → Int32 → Int32 → Int32 → Option (Int32 × (S6))) (M : S6) (x1 : Int32) (x2 : Int32) (x4 : Int32) (t1 : Int32) (t2 : Int32) : Option (Int32 × (S6)) := (if t1 < 0 ∨ 2000 ≤ (t1).toNatClampNeg then none else rec71 (M.1, (M.2.1 + (1 : Int32)), (upd M.2.2.1 (t1).toNatClampNeg (vp_nar .boolean t2)), M.2.2.2.1, M.2.2.2.2.1, M.2.2.2.2.2.1, M.2.2.2.2.2.2.1, M.2.2.2.2.2.2.2.1, M.2.2.2.2.2.2.2.2.1, M.2.2.2.2.2.2.2.2.2.1, M.2.2.2.2.2.2.2.2.2.2.1, M.2.2.2.2.2.2.2.2.2.2.2.1, M.2.2.2.2.2.2.2.2.2.2.2.2.1, M.2.2.2.2.2.2.2.2.2.2.2.2.2.1, M.2.2.2.2.2.2.2.2.2.2.2.2.2.2.1, M.2.2.2.2.2.2.2.2.2.2.2.2.2.2.2.1, M.2.2.2.2.2.2.2.2.2.2.2.2.2.2.2.2.1, M.2.2.2.2.2.2.2.2.2.2.2.2.2.2.2.2.2.1, M.2.2.2.2.2.2.2.2.2.2.2.2.2.2.2.2.2.2.1, M.2.2.2.2.2.2.2.2.2.2.2.2.2.2.2.2.2.2.2.1, M.2.2.2.2.2.2.2.2.2.2.2.2.2.2.2.2.2.2.2.2) x1 x2 (x4 + (1 : Int32)))
def fX6_put_71 : Nat → S6 → Int32 → Int32 → Int32 → Option (Int32 × (S6))
  | 0 => fun _ _ _ _ => none
  | fu + 1 => fun M x1 x2 x4 => (if x2 ≤ x4 then some (M.2.1, M) else (if ((x1 >>> (x4 &&& 31)) &&& (1 : Int32)) = (1 : Int32) then fX6_put_100 (fX6_put_71 fu) M x1 x2 x4 M.2.1 (1 : Int32) else fX6_put_100 (fX6_put_71 fu) M x1 x2 x4 M.2.1 (0 : Int32)))
def fX6_put_56 (M : S6) (x1 : Int32) (x2 : Int32) (t1 : Int32) : Option (Int32 × (S6)) := (if t1 = 0 then fX6_put_71 xF (t1, M.2.1, M.2.2.1, M.2.2.2.1, M.2.2.2.2.1, M.2.2.2.2.2.1, M.2.2.2.2.2.2.1, M.2.2.2.2.2.2.2.1, M.2.2.2.2.2.2.2.2.1, M.2.2.2.2.2.2.2.2.2.1, M.2.2.2.2.2.2.2.2.2.2.1, M.2.2.2.2.2.2.2.2.2.2.2.1, M.2.2.2.2.2.2.2.2.2.2.2.2.1, M.2.2.2.2.2.2.2.2.2.2.2.2.2.1, M.2.2.2.2.2.2.2.2.2.2.2.2.2.2.1, M.2.2.2.2.2.2.2.2.2.2.2.2.2.2.2.1, M.2.2.2.2.2.2.2.2.2.2.2.2.2.2.2.2.1, M.2.2.2.2.2.2.2.2.2.2.2.2.2.2.2.2.2.1, M.2.2.2.2.2.2.2.2.2.2.2.2.2.2.2.2.2.2.1, M.2.2.2.2.2.2.2.2.2.2.2.2.2.2.2.2.2.2.2.1, M.2.2.2.2.2.2.2.2.2.2.2.2.2.2.2.2.2.2.2.2) x1 x2 (0 : Int32) else some ((0 : Int32), (t1, M.2.1, M.2.2.1, M.2.2.2.1, M.2.2.2.2.1, M.2.2.2.2.2.1, M.2.2.2.2.2.2.1, M.2.2.2.2.2.2.2.1, M.2.2.2.2.2.2.2.2.1, M.2.2.2.2.2.2.2.2.2.1, M.2.2.2.2.2.2.2.2.2.2.1, M.2.2.2.2.2.2.2.2.2.2.2.1, M.2.2.2.2.2.2.2.2.2.2.2.2.1, M.2.2.2.2.2.2.2.2.2.2.2.2.2.1, M.2.2.2.2.2.2.2.2.2.2.2.2.2.2.1, M.2.2.2.2.2.2.2.2.2.2.2.2.2.2.2.1, M.2.2.2.2.2.2.2.2.2.2.2.2.2.2.2.2.1, M.2.2.2.2.2.2.2.2.2.2.2.2.2.2.2.2.2.1, M.2.2.2.2.2.2.2.2.2.2.2.2.2.2.2.2.2.2.1, M.2.2.2.2.2.2.2.2.2.2.2.2.2.2.2.2.2.2.2.1, M.2.2.2.2.2.2.2.2.2.2.2.2.2.2.2.2.2.2.2.2)))
def fX6_put_19 (M : S6) (x1 : Int32) (x2 : Int32) (t0 : Int32) : Option (Int32 × (S6)) := (if t0 = 0 then (if (x1 >>> (x2 &&& 31)) = 0 then (if (M.2.1 + x2) ≤ (2000 : Int32) then fX6_put_56 M x1 x2 (0 : Int32) else fX6_put_56 M x1 x2 (2 : Int32)) else fX6_put_56 M x1 x2 (1 : Int32)) else fX6_put_56 M x1 x2 (1 : Int32))
def fX6_put (M : S6) (p1 : Int32) (p2 : Int32) : Option (Int32 × (S6)) := (if p2 < 0 then fX6_put_19 M p1 p2 (1 : Int32) else (if (24 : Int32) < p2 then fX6_put_19 M p1 p2 (1 : Int32) else (if 0 ≤ p1 then fX6_put_19 M p1 p2 (0 : Int32) else fX6_put_19 M p1 p2 (1 : Int32))))
set_option maxHeartbeats 4000000 in
set_option maxRecDepth 100000 in
theorem kX6_put_100 {p : Program} {l : Launch} {e : Env} {s : State} {m : MethodId} {args : Array Value} {below : List Frame} {meth : Method} {c : Code} {D : va_G} {K : Nat → ClassId} {A : Nat → Prop} {aM : Nat → Nat} (C : xC p s m args meth c cX6_put 5 (some .int) yX6_put D K A []) (rec71 : S6 → Int32 → Int32 → Int32 → Option (Int32 × (S6))) (hrec71 : ∀ (M : S6) (x1 : Int32) (x2 : Int32) (x4 : Int32) (r : Int32 × (S6)), rec71 M x1 x2 x4 = some r → ∀ (H : Heap) (locs : List Loc) (ls : Array Slot), va_P D vwCl (w6 aM K M) H → va_D A (w6 aM K M) → va_S A s.heap H locs → lv_has ls 5 [(0, .ref (aM 0)), (1, .int x1), (2, .int x2), (4, .int x4)] → W p l e (xR 0 0 (oX6_put aM K r)) s m args below meth c H locs 0 0 (xQ below args s D K A (oX6_put aM K r)) (F0 m 71 ls [])) : ∀ (M : S6) (x1 : Int32) (x2 : Int32) (x4 : Int32) (t1 : Int32) (t2 : Int32) (r : Int32 × (S6)), fX6_put_100  rec71 M x1 x2 x4 t1 t2 = some r → ∀ (H : Heap) (locs : List Loc) (ls : Array Slot), va_P D vwCl (w6 aM K M) H → va_D A (w6 aM K M) → va_S A s.heap H locs → lv_has ls 5 [(0, .ref (aM 0)), (1, .int x1), (2, .int x2), (4, .int x4)] → W p l e (xR 0 0 (oX6_put aM K r)) s m args below meth c H locs 0 0 (xQ below args s D K A (oX6_put aM K r)) (F0 m 100 ls [.int t2, .int t1, .ref (aM 1)]) := by
  obtain ⟨hx, hb, hr, hml, hown, hK, hts, hA, hG, hlk, hte, hnm⟩ := id C
  intro M x1 x2 x4 t1 t2 r h H locs ls hP hD hS hl
  replace h : (if t1 < 0 ∨ 2000 ≤ (t1).toNatClampNeg then none else rec71 (M.1, (M.2.1 + (1 : Int32)), (upd M.2.2.1 (t1).toNatClampNeg (vp_nar .boolean t2)), M.2.2.2.1, M.2.2.2.2.1, M.2.2.2.2.2.1, M.2.2.2.2.2.2.1, M.2.2.2.2.2.2.2.1, M.2.2.2.2.2.2.2.2.1, M.2.2.2.2.2.2.2.2.2.1, M.2.2.2.2.2.2.2.2.2.2.1, M.2.2.2.2.2.2.2.2.2.2.2.1, M.2.2.2.2.2.2.2.2.2.2.2.2.1, M.2.2.2.2.2.2.2.2.2.2.2.2.2.1, M.2.2.2.2.2.2.2.2.2.2.2.2.2.2.1, M.2.2.2.2.2.2.2.2.2.2.2.2.2.2.2.1, M.2.2.2.2.2.2.2.2.2.2.2.2.2.2.2.2.1, M.2.2.2.2.2.2.2.2.2.2.2.2.2.2.2.2.2.1, M.2.2.2.2.2.2.2.2.2.2.2.2.2.2.2.2.2.2.1, M.2.2.2.2.2.2.2.2.2.2.2.2.2.2.2.2.2.2.2.1, M.2.2.2.2.2.2.2.2.2.2.2.2.2.2.2.2.2.2.2.2) x1 x2 (x4 + (1 : Int32))) = some r := h
  obtain ⟨hi9, h⟩ := xi_g h
  refine va_zast hx hb hK hP hD hS 1 1 rfl rfl hi9 dX6_put_100 (fun H locs hP hD hS => ?_)
  have hP : va_P D vwCl (w6 aM K (M.1, M.2.1, (upd M.2.2.1 (t1).toNatClampNeg (vp_nar .boolean t2)), M.2.2.2.1, M.2.2.2.2.1, M.2.2.2.2.2.1, M.2.2.2.2.2.2.1, M.2.2.2.2.2.2.2.1, M.2.2.2.2.2.2.2.2.1, M.2.2.2.2.2.2.2.2.2.1, M.2.2.2.2.2.2.2.2.2.2.1, M.2.2.2.2.2.2.2.2.2.2.2.1, M.2.2.2.2.2.2.2.2.2.2.2.2.1, M.2.2.2.2.2.2.2.2.2.2.2.2.2.1, M.2.2.2.2.2.2.2.2.2.2.2.2.2.2.1, M.2.2.2.2.2.2.2.2.2.2.2.2.2.2.2.1, M.2.2.2.2.2.2.2.2.2.2.2.2.2.2.2.2.1, M.2.2.2.2.2.2.2.2.2.2.2.2.2.2.2.2.2.1, M.2.2.2.2.2.2.2.2.2.2.2.2.2.2.2.2.2.2.1, M.2.2.2.2.2.2.2.2.2.2.2.2.2.2.2.2.2.2.2.1, M.2.2.2.2.2.2.2.2.2.2.2.2.2.2.2.2.2.2.2.2)) H := hP
  have hD : va_D A (w6 aM K (M.1, M.2.1, (upd M.2.2.1 (t1).toNatClampNeg (vp_nar .boolean t2)), M.2.2.2.1, M.2.2.2.2.1, M.2.2.2.2.2.1, M.2.2.2.2.2.2.1, M.2.2.2.2.2.2.2.1, M.2.2.2.2.2.2.2.2.1, M.2.2.2.2.2.2.2.2.2.1, M.2.2.2.2.2.2.2.2.2.2.1, M.2.2.2.2.2.2.2.2.2.2.2.1, M.2.2.2.2.2.2.2.2.2.2.2.2.1, M.2.2.2.2.2.2.2.2.2.2.2.2.2.1, M.2.2.2.2.2.2.2.2.2.2.2.2.2.2.1, M.2.2.2.2.2.2.2.2.2.2.2.2.2.2.2.1, M.2.2.2.2.2.2.2.2.2.2.2.2.2.2.2.2.1, M.2.2.2.2.2.2.2.2.2.2.2.2.2.2.2.2.2.1, M.2.2.2.2.2.2.2.2.2.2.2.2.2.2.2.2.2.2.1, M.2.2.2.2.2.2.2.2.2.2.2.2.2.2.2.2.2.2.2.1, M.2.2.2.2.2.2.2.2.2.2.2.2.2.2.2.2.2.2.2.2)) := hD
  refine lv_aload_n hx hb dX6_put_101 rfl (lv_at hl 0 rfl) ?_
  refine lv_dup hx hb dX6_put_102 rfl ?_
  refine va_get (D := D) (ci := 6) (v := .int M.2.1) (C := RX6) (T := TX6) (N := 21) hx hb hts xu_X6 hown hK hP 0 rfl rfl 1 (by decide) (hts _ xw_508) (fun _ h9 => h9) rfl dX6_put_103 ?_
  refine lv_iconst (v := (1 : Int32)) hx hb dX6_put_106 (by decide) ?_
  refine lv_iadd hx hb dX6_put_107 ?_
  refine va_put (D := D) (ci := 6) (v := .int (M.2.1 + (1 : Int32))) (ty := .int) (C := RX6) (T := TX6) (N := 21) hx hb hts xu_X6 tyX6 tyX6_ok nmX6 hown hK hP hD hS 0 rfl rfl 1 (by decide) (hts _ xw_508) (fun _ h9 => h9) rfl (by decide +kernel) rfl rfl (Nat.le_of_ble_eq_true rfl) dX6_put_108 (fun H locs hP hD hS => ?_)
  have hP : va_P D vwCl (w6 aM K (M.1, (M.2.1 + (1 : Int32)), (upd M.2.2.1 (t1).toNatClampNeg (vp_nar .boolean t2)), M.2.2.2.1, M.2.2.2.2.1, M.2.2.2.2.2.1, M.2.2.2.2.2.2.1, M.2.2.2.2.2.2.2.1, M.2.2.2.2.2.2.2.2.1, M.2.2.2.2.2.2.2.2.2.1, M.2.2.2.2.2.2.2.2.2.2.1, M.2.2.2.2.2.2.2.2.2.2.2.1, M.2.2.2.2.2.2.2.2.2.2.2.2.1, M.2.2.2.2.2.2.2.2.2.2.2.2.2.1, M.2.2.2.2.2.2.2.2.2.2.2.2.2.2.1, M.2.2.2.2.2.2.2.2.2.2.2.2.2.2.2.1, M.2.2.2.2.2.2.2.2.2.2.2.2.2.2.2.2.1, M.2.2.2.2.2.2.2.2.2.2.2.2.2.2.2.2.2.1, M.2.2.2.2.2.2.2.2.2.2.2.2.2.2.2.2.2.2.1, M.2.2.2.2.2.2.2.2.2.2.2.2.2.2.2.2.2.2.2.1, M.2.2.2.2.2.2.2.2.2.2.2.2.2.2.2.2.2.2.2.2)) H := hP
  have hD : va_D A (w6 aM K (M.1, (M.2.1 + (1 : Int32)), (upd M.2.2.1 (t1).toNatClampNeg (vp_nar .boolean t2)), M.2.2.2.1, M.2.2.2.2.1, M.2.2.2.2.2.1, M.2.2.2.2.2.2.1, M.2.2.2.2.2.2.2.1, M.2.2.2.2.2.2.2.2.1, M.2.2.2.2.2.2.2.2.2.1, M.2.2.2.2.2.2.2.2.2.2.1, M.2.2.2.2.2.2.2.2.2.2.2.1, M.2.2.2.2.2.2.2.2.2.2.2.2.1, M.2.2.2.2.2.2.2.2.2.2.2.2.2.1, M.2.2.2.2.2.2.2.2.2.2.2.2.2.2.1, M.2.2.2.2.2.2.2.2.2.2.2.2.2.2.2.1, M.2.2.2.2.2.2.2.2.2.2.2.2.2.2.2.2.1, M.2.2.2.2.2.2.2.2.2.2.2.2.2.2.2.2.2.1, M.2.2.2.2.2.2.2.2.2.2.2.2.2.2.2.2.2.2.1, M.2.2.2.2.2.2.2.2.2.2.2.2.2.2.2.2.2.2.2.1, M.2.2.2.2.2.2.2.2.2.2.2.2.2.2.2.2.2.2.2.2)) := hD
  refine lv_iinc (v := (x4 + (1 : Int32))) (lv' := [(4, .int (x4 + (1 : Int32))), (0, .ref (aM 0)), (1, .int x1), (2, .int x2)]) hx hb dX6_put_111 hl (k := 3) rfl (by rfl) (by decide) rfl (fun ls hl => ?_)
  refine lv_goto (tgt := 71) hx hb dX6_put_114 (by decide) ?_
  exact hrec71 _ _ _ _ _ h _ _ _ hP hD hS (lv_sub hl [1, 2, 3, 0] rfl)
set_option maxHeartbeats 4000000 in
set_option maxRecDepth 100000 in
theorem kX6_put_71 {p : Program} {l : Launch} {e : Env} {s : State} {m : MethodId} {args : Array Value} {below : List Frame} {meth : Method} {c : Code} {D : va_G} {K : Nat → ClassId} {A : Nat → Prop} {aM : Nat → Nat} (C : xC p s m args meth c cX6_put 5 (some .int) yX6_put D K A []) : ∀ fu : Nat, ∀ (M : S6) (x1 : Int32) (x2 : Int32) (x4 : Int32) (r : Int32 × (S6)), fX6_put_71 fu M x1 x2 x4 = some r → ∀ (H : Heap) (locs : List Loc) (ls : Array Slot), va_P D vwCl (w6 aM K M) H → va_D A (w6 aM K M) → va_S A s.heap H locs → lv_has ls 5 [(0, .ref (aM 0)), (1, .int x1), (2, .int x2), (4, .int x4)] → W p l e (xR 0 0 (oX6_put aM K r)) s m args below meth c H locs 0 0 (xQ below args s D K A (oX6_put aM K r)) (F0 m 71 ls []) := by
  obtain ⟨hx, hb, hr, hml, hown, hK, hts, hA, hG, hlk, hte, hnm⟩ := id C
  intro fu
  induction fu with
  | zero =>
    intro M x1 x2 x4 r h
    exact nomatch (show (none : Option (Int32 × (S6))) = some r from h)
  | succ fu ih =>
    intro M x1 x2 x4 r h H locs ls hP hD hS hl
    replace h : (if x2 ≤ x4 then some (M.2.1, M) else (if ((x1 >>> (x4 &&& 31)) &&& (1 : Int32)) = (1 : Int32) then fX6_put_100 (fX6_put_71 fu) M x1 x2 x4 M.2.1 (1 : Int32) else fX6_put_100 (fX6_put_71 fu) M x1 x2 x4 M.2.1 (0 : Int32))) = some r := h
    refine lv_iload hx hb dX6_put_71 (lv_at hl 3 rfl) ?_
    refine lv_iload_n hx hb dX6_put_73 rfl (lv_at hl 2 rfl) ?_
    refine lv_icmp_ge (tgt := 117) hx hb dX6_put_74 (by decide) (fun c9 => ?_) (fun c9 => ?_)
    · replace h := xi_t c9 h
      refine lv_aload_n hx hb dX6_put_117 rfl (lv_at hl 0 rfl) ?_
      refine va_get (D := D) (ci := 6) (v := .int M.2.1) (C := RX6) (T := TX6) (N := 21) hx hb hts xu_X6 hown hK hP 0 rfl rfl 1 (by decide) (hts _ xw_508) (fun _ h9 => h9) rfl dX6_put_118 ?_
      obtain rfl := Option.some.inj h
      exact xe_i C hP hD hS dX6_put_121
    · replace h := xi_f c9 h
      refine lv_aload_n hx hb dX6_put_77 rfl (lv_at hl 0 rfl) ?_
      refine va_get (D := D) (ci := 6) (v := .ref (aM 1)) (C := RX6) (T := TX6) (N := 21) hx hb hts xu_X6 hown hK hP 0 rfl rfl 2 (by decide) (hts _ xw_509) (fun _ h9 => h9) rfl dX6_put_78 ?_
      refine lv_aload_n hx hb dX6_put_81 rfl (lv_at hl 0 rfl) ?_
      refine va_get (D := D) (ci := 6) (v := .int M.2.1) (C := RX6) (T := TX6) (N := 21) hx hb hts xu_X6 hown hK hP 0 rfl rfl 1 (by decide) (hts _ xw_508) (fun _ h9 => h9) rfl dX6_put_82 ?_
      refine lv_iload_n hx hb dX6_put_85 rfl (lv_at hl 1 rfl) ?_
      refine lv_iload hx hb dX6_put_86 (lv_at hl 3 rfl) ?_
      refine lv_ishr hx hb dX6_put_88 ?_
      refine lv_iconst (v := (1 : Int32)) hx hb dX6_put_89 (by decide) ?_
      refine lv_iand hx hb dX6_put_90 ?_
      refine lv_iconst (v := (1 : Int32)) hx hb dX6_put_91 (by decide) ?_
      refine lv_icmp_ne (tgt := 99) hx hb dX6_put_92 (by decide) (fun c9 => ?_) (fun c9 => ?_)
      · replace h := xi_f c9 h
        refine lv_iconst (v := (0 : Int32)) hx hb dX6_put_99 (by decide) ?_
        exact kX6_put_100 C _ ih _ _ _ _ _ _ _ h _ _ _ hP hD hS (lv_sub hl [0, 1, 2, 3] rfl)
      · replace h := xi_t c9 h
        refine lv_iconst (v := (1 : Int32)) hx hb dX6_put_95 (by decide) ?_
        refine lv_goto (tgt := 100) hx hb dX6_put_96 (by decide) ?_
        exact kX6_put_100 C _ ih _ _ _ _ _ _ _ h _ _ _ hP hD hS (lv_sub hl [0, 1, 2, 3] rfl)
set_option maxHeartbeats 4000000 in
set_option maxRecDepth 100000 in
theorem kX6_put_56 {p : Program} {l : Launch} {e : Env} {s : State} {m : MethodId} {args : Array Value} {below : List Frame} {meth : Method} {c : Code} {D : va_G} {K : Nat → ClassId} {A : Nat → Prop} {aM : Nat → Nat} (C : xC p s m args meth c cX6_put 5 (some .int) yX6_put D K A []) : ∀ (M : S6) (x1 : Int32) (x2 : Int32) (t1 : Int32) (r : Int32 × (S6)), fX6_put_56  M x1 x2 t1 = some r → ∀ (H : Heap) (locs : List Loc) (ls : Array Slot), va_P D vwCl (w6 aM K M) H → va_D A (w6 aM K M) → va_S A s.heap H locs → lv_has ls 5 [(0, .ref (aM 0)), (1, .int x1), (2, .int x2)] → W p l e (xR 0 0 (oX6_put aM K r)) s m args below meth c H locs 0 0 (xQ below args s D K A (oX6_put aM K r)) (F0 m 56 ls [.int t1, .ref (aM 0)]) := by
  obtain ⟨hx, hb, hr, hml, hown, hK, hts, hA, hG, hlk, hte, hnm⟩ := id C
  intro M x1 x2 t1 r h H locs ls hP hD hS hl
  replace h : (if t1 = 0 then fX6_put_71 xF (t1, M.2.1, M.2.2.1, M.2.2.2.1, M.2.2.2.2.1, M.2.2.2.2.2.1, M.2.2.2.2.2.2.1, M.2.2.2.2.2.2.2.1, M.2.2.2.2.2.2.2.2.1, M.2.2.2.2.2.2.2.2.2.1, M.2.2.2.2.2.2.2.2.2.2.1, M.2.2.2.2.2.2.2.2.2.2.2.1, M.2.2.2.2.2.2.2.2.2.2.2.2.1, M.2.2.2.2.2.2.2.2.2.2.2.2.2.1, M.2.2.2.2.2.2.2.2.2.2.2.2.2.2.1, M.2.2.2.2.2.2.2.2.2.2.2.2.2.2.2.1, M.2.2.2.2.2.2.2.2.2.2.2.2.2.2.2.2.1, M.2.2.2.2.2.2.2.2.2.2.2.2.2.2.2.2.2.1, M.2.2.2.2.2.2.2.2.2.2.2.2.2.2.2.2.2.2.1, M.2.2.2.2.2.2.2.2.2.2.2.2.2.2.2.2.2.2.2.1, M.2.2.2.2.2.2.2.2.2.2.2.2.2.2.2.2.2.2.2.2) x1 x2 (0 : Int32) else some ((0 : Int32), (t1, M.2.1, M.2.2.1, M.2.2.2.1, M.2.2.2.2.1, M.2.2.2.2.2.1, M.2.2.2.2.2.2.1, M.2.2.2.2.2.2.2.1, M.2.2.2.2.2.2.2.2.1, M.2.2.2.2.2.2.2.2.2.1, M.2.2.2.2.2.2.2.2.2.2.1, M.2.2.2.2.2.2.2.2.2.2.2.1, M.2.2.2.2.2.2.2.2.2.2.2.2.1, M.2.2.2.2.2.2.2.2.2.2.2.2.2.1, M.2.2.2.2.2.2.2.2.2.2.2.2.2.2.1, M.2.2.2.2.2.2.2.2.2.2.2.2.2.2.2.1, M.2.2.2.2.2.2.2.2.2.2.2.2.2.2.2.2.1, M.2.2.2.2.2.2.2.2.2.2.2.2.2.2.2.2.2.1, M.2.2.2.2.2.2.2.2.2.2.2.2.2.2.2.2.2.2.1, M.2.2.2.2.2.2.2.2.2.2.2.2.2.2.2.2.2.2.2.1, M.2.2.2.2.2.2.2.2.2.2.2.2.2.2.2.2.2.2.2.2))) = some r := h
  refine va_put (D := D) (ci := 6) (v := .int t1) (ty := .int) (C := RX6) (T := TX6) (N := 21) hx hb hts xu_X6 tyX6 tyX6_ok nmX6 hown hK hP hD hS 0 rfl rfl 0 (by decide) (hts _ xw_507) (fun _ h9 => h9) rfl (by decide +kernel) rfl rfl (Nat.le_of_ble_eq_true rfl) dX6_put_56 (fun H locs hP hD hS => ?_)
  have hP : va_P D vwCl (w6 aM K (t1, M.2.1, M.2.2.1, M.2.2.2.1, M.2.2.2.2.1, M.2.2.2.2.2.1, M.2.2.2.2.2.2.1, M.2.2.2.2.2.2.2.1, M.2.2.2.2.2.2.2.2.1, M.2.2.2.2.2.2.2.2.2.1, M.2.2.2.2.2.2.2.2.2.2.1, M.2.2.2.2.2.2.2.2.2.2.2.1, M.2.2.2.2.2.2.2.2.2.2.2.2.1, M.2.2.2.2.2.2.2.2.2.2.2.2.2.1, M.2.2.2.2.2.2.2.2.2.2.2.2.2.2.1, M.2.2.2.2.2.2.2.2.2.2.2.2.2.2.2.1, M.2.2.2.2.2.2.2.2.2.2.2.2.2.2.2.2.1, M.2.2.2.2.2.2.2.2.2.2.2.2.2.2.2.2.2.1, M.2.2.2.2.2.2.2.2.2.2.2.2.2.2.2.2.2.2.1, M.2.2.2.2.2.2.2.2.2.2.2.2.2.2.2.2.2.2.2.1, M.2.2.2.2.2.2.2.2.2.2.2.2.2.2.2.2.2.2.2.2)) H := hP
  have hD : va_D A (w6 aM K (t1, M.2.1, M.2.2.1, M.2.2.2.1, M.2.2.2.2.1, M.2.2.2.2.2.1, M.2.2.2.2.2.2.1, M.2.2.2.2.2.2.2.1, M.2.2.2.2.2.2.2.2.1, M.2.2.2.2.2.2.2.2.2.1, M.2.2.2.2.2.2.2.2.2.2.1, M.2.2.2.2.2.2.2.2.2.2.2.1, M.2.2.2.2.2.2.2.2.2.2.2.2.1, M.2.2.2.2.2.2.2.2.2.2.2.2.2.1, M.2.2.2.2.2.2.2.2.2.2.2.2.2.2.1, M.2.2.2.2.2.2.2.2.2.2.2.2.2.2.2.1, M.2.2.2.2.2.2.2.2.2.2.2.2.2.2.2.2.1, M.2.2.2.2.2.2.2.2.2.2.2.2.2.2.2.2.2.1, M.2.2.2.2.2.2.2.2.2.2.2.2.2.2.2.2.2.2.1, M.2.2.2.2.2.2.2.2.2.2.2.2.2.2.2.2.2.2.2.1, M.2.2.2.2.2.2.2.2.2.2.2.2.2.2.2.2.2.2.2.2)) := hD
  refine lv_aload_n hx hb dX6_put_59 rfl (lv_at hl 0 rfl) ?_
  refine va_get (D := D) (ci := 6) (v := .int t1) (C := RX6) (T := TX6) (N := 21) hx hb hts xu_X6 hown hK hP 0 rfl rfl 0 (by decide) (hts _ xw_507) (fun _ h9 => h9) rfl dX6_put_60 ?_
  refine lv_if_eq (tgt := 68) hx hb dX6_put_63 (by decide) (fun c9 => ?_) (fun c9 => ?_)
  · replace h := xi_t c9 h
    refine lv_iconst (v := (0 : Int32)) hx hb dX6_put_68 (by decide) ?_
    refine lv_istore (lv' := [(4, .int (0 : Int32)), (0, .ref (aM 0)), (1, .int x1), (2, .int x2)]) hx hb dX6_put_69 hl (by decide) rfl (fun ls hl => ?_)
    exact kX6_put_71 C _ _ _ _ _ _ h _ _ _ hP hD hS (lv_sub hl [1, 2, 3, 0] rfl)
  · replace h := xi_f c9 h
    refine lv_iconst (v := (0 : Int32)) hx hb dX6_put_66 (by decide) ?_
    obtain rfl := Option.some.inj h
    exact xe_i C hP hD hS dX6_put_67
set_option maxHeartbeats 4000000 in
set_option maxRecDepth 100000 in
theorem kX6_put_19 {p : Program} {l : Launch} {e : Env} {s : State} {m : MethodId} {args : Array Value} {below : List Frame} {meth : Method} {c : Code} {D : va_G} {K : Nat → ClassId} {A : Nat → Prop} {aM : Nat → Nat} (C : xC p s m args meth c cX6_put 5 (some .int) yX6_put D K A []) : ∀ (M : S6) (x1 : Int32) (x2 : Int32) (t0 : Int32) (r : Int32 × (S6)), fX6_put_19  M x1 x2 t0 = some r → ∀ (H : Heap) (locs : List Loc) (ls : Array Slot), va_P D vwCl (w6 aM K M) H → va_D A (w6 aM K M) → va_S A s.heap H locs → lv_has ls 5 [(0, .ref (aM 0)), (1, .int x1), (2, .int x2)] → W p l e (xR 0 0 (oX6_put aM K r)) s m args below meth c H locs 0 0 (xQ below args s D K A (oX6_put aM K r)) (F0 m 19 ls [.int t0]) := by
  obtain ⟨hx, hb, hr, hml, hown, hK, hts, hA, hG, hlk, hte, hnm⟩ := id C
  intro M x1 x2 t0 r h H locs ls hP hD hS hl
  replace h : (if t0 = 0 then (if (x1 >>> (x2 &&& 31)) = 0 then (if (M.2.1 + x2) ≤ (2000 : Int32) then fX6_put_56 M x1 x2 (0 : Int32) else fX6_put_56 M x1 x2 (2 : Int32)) else fX6_put_56 M x1 x2 (1 : Int32)) else fX6_put_56 M x1 x2 (1 : Int32)) = some r := h
  refine lv_istore_n (lv' := [(3, .int t0), (0, .ref (aM 0)), (1, .int x1), (2, .int x2)]) hx hb dX6_put_19 rfl hl (by decide) rfl (fun ls hl => ?_)
  refine lv_aload_n hx hb dX6_put_20 rfl (lv_at hl 1 rfl) ?_
  refine lv_iload_n hx hb dX6_put_21 rfl (lv_at hl 0 rfl) ?_
  refine lv_if_eq (tgt := 29) hx hb dX6_put_22 (by decide) (fun c9 => ?_) (fun c9 => ?_)
  · replace h := xi_t c9 h
    refine lv_iload_n hx hb dX6_put_29 rfl (lv_at hl 2 rfl) ?_
    refine lv_iload_n hx hb dX6_put_30 rfl (lv_at hl 3 rfl) ?_
    refine lv_ishr hx hb dX6_put_31 ?_
    refine lv_if_eq (tgt := 39) hx hb dX6_put_32 (by decide) (fun c9 => ?_) (fun c9 => ?_)
    · replace h := xi_t c9 h
      refine lv_aload_n hx hb dX6_put_39 rfl (lv_at hl 1 rfl) ?_
      refine va_get (D := D) (ci := 6) (v := .int M.2.1) (C := RX6) (T := TX6) (N := 21) hx hb hts xu_X6 hown hK hP 0 rfl rfl 1 (by decide) (hts _ xw_508) (fun _ h9 => h9) rfl dX6_put_40 ?_
      refine lv_iload_n hx hb dX6_put_43 rfl (lv_at hl 3 rfl) ?_
      refine lv_iadd hx hb dX6_put_44 ?_
      refine lv_sipush (v := (2000 : Int32)) hx hb dX6_put_45 (by decide) ?_
      refine lv_icmp_le (tgt := 55) hx hb dX6_put_48 (by decide) (fun c9 => ?_) (fun c9 => ?_)
      · replace h := xi_t c9 h
        refine lv_iconst (v := (0 : Int32)) hx hb dX6_put_55 (by decide) ?_
        exact kX6_put_56 C _ _ _ _ _ h _ _ _ hP hD hS (lv_sub hl [1, 2, 3] rfl)
      · replace h := xi_f c9 h
        refine lv_iconst (v := (2 : Int32)) hx hb dX6_put_51 (by decide) ?_
        refine lv_goto (tgt := 56) hx hb dX6_put_52 (by decide) ?_
        exact kX6_put_56 C _ _ _ _ _ h _ _ _ hP hD hS (lv_sub hl [1, 2, 3] rfl)
    · replace h := xi_f c9 h
      refine lv_iconst (v := (1 : Int32)) hx hb dX6_put_35 (by decide) ?_
      refine lv_goto (tgt := 56) hx hb dX6_put_36 (by decide) ?_
      exact kX6_put_56 C _ _ _ _ _ h _ _ _ hP hD hS (lv_sub hl [1, 2, 3] rfl)
  · replace h := xi_f c9 h
    refine lv_iconst (v := (1 : Int32)) hx hb dX6_put_25 (by decide) ?_
    refine lv_goto (tgt := 56) hx hb dX6_put_26 (by decide) ?_
    exact kX6_put_56 C _ _ _ _ _ h _ _ _ hP hD hS (lv_sub hl [1, 2, 3] rfl)
set_option maxHeartbeats 4000000 in
set_option maxRecDepth 100000 in
theorem mX6_put (l : Launch) (D : va_G) (K : Nat → ClassId) (aM : Nat → Nat) (sz : Nat) (M : S6) (p1 : Int32) (p2 : Int32) (r : Int32 × (S6)) (h : fX6_put M p1 p2 = some r) : xMet l yX6_put cX6_put 5 (some .int) 0 0 D K [.ref (aM 0), .int p1, .int p2] sz (w6 aM K M) (oX6_put aM K r) := by
  refine xm_of _ (by decide +kernel) (Nat.le_of_ble_eq_true rfl) (fun p e s m args below meth c A C hP hD ls hl => ?_)
  have hl : lv_has ls 5 [(0, .ref (aM 0)), (1, .int p1), (2, .int p2)] := hl
  have hS : va_S A s.heap s.heap [] := va_S.rf
  obtain ⟨hx, hb, hr, hml, hown, hK, hts, hA, hG, hlk, hte, hnm⟩ := id C
  replace h : (if p2 < 0 then fX6_put_19 M p1 p2 (1 : Int32) else (if (24 : Int32) < p2 then fX6_put_19 M p1 p2 (1 : Int32) else (if 0 ≤ p1 then fX6_put_19 M p1 p2 (0 : Int32) else fX6_put_19 M p1 p2 (1 : Int32)))) = some r := h
  refine lv_iload_n hx hb dX6_put_0 rfl (lv_at hl 2 rfl) ?_
  refine lv_if_lt (tgt := 14) hx hb dX6_put_1 (by decide) (fun c9 => ?_) (fun c9 => ?_)
  · replace h := xi_t c9 h
    refine lv_iconst (v := (1 : Int32)) hx hb dX6_put_14 (by decide) ?_
    refine lv_goto (tgt := 19) hx hb dX6_put_15 (by decide) ?_
    exact kX6_put_19 C _ _ _ _ _ h _ _ _ hP hD hS (lv_sub hl [0, 1, 2] rfl)
  · replace h := xi_f c9 h
    refine lv_iload_n hx hb dX6_put_4 rfl (lv_at hl 2 rfl) ?_
    refine lv_bipush (v := (24 : Int32)) hx hb dX6_put_5 (by decide) ?_
    refine lv_icmp_gt (tgt := 14) hx hb dX6_put_7 (by decide) (fun c9 => ?_) (fun c9 => ?_)
    · replace h := xi_t c9 h
      refine lv_iconst (v := (1 : Int32)) hx hb dX6_put_14 (by decide) ?_
      refine lv_goto (tgt := 19) hx hb dX6_put_15 (by decide) ?_
      exact kX6_put_19 C _ _ _ _ _ h _ _ _ hP hD hS (lv_sub hl [0, 1, 2] rfl)
    · replace h := xi_f c9 h
      refine lv_iload_n hx hb dX6_put_10 rfl (lv_at hl 1 rfl) ?_
      refine lv_if_ge (tgt := 18) hx hb dX6_put_11 (by decide) (fun c9 => ?_) (fun c9 => ?_)
      · replace h := xi_t c9 h
        refine lv_iconst (v := (0 : Int32)) hx hb dX6_put_18 (by decide) ?_
        exact kX6_put_19 C _ _ _ _ _ h _ _ _ hP hD hS (lv_sub hl [0, 1, 2] rfl)
      · replace h := xi_f c9 h
        refine lv_iconst (v := (1 : Int32)) hx hb dX6_put_14 (by decide) ?_
        refine lv_goto (tgt := 19) hx hb dX6_put_15 (by decide) ?_
        exact kX6_put_19 C _ _ _ _ _ h _ _ _ hP hD hS (lv_sub hl [0, 1, 2] rfl)
abbrev oX6_noBit (aM : Nat → Nat) (K : Nat → ClassId) (q : Int32 × (S6)) : xO := .inr ((some (.int q.1)), w6 aM K q.2)
def fX6_noBit (M : S6) (p1 : Int32) : Option (Int32 × (S6)) := (if p1 < 0 then some ((1 : Int32), M) else (if p1 < M.2.1 then some ((0 : Int32), M) else some ((1 : Int32), M)))
set_option maxHeartbeats 4000000 in
set_option maxRecDepth 100000 in
theorem mX6_noBit (l : Launch) (D : va_G) (K : Nat → ClassId) (aM : Nat → Nat) (sz : Nat) (M : S6) (p1 : Int32) (r : Int32 × (S6)) (h : fX6_noBit M p1 = some r) : xMet l yX6_noBit cX6_noBit 2 (some .boolean) 0 0 D K [.ref (aM 0), .int p1] sz (w6 aM K M) (oX6_noBit aM K r) := by
  refine xm_of _ (by decide +kernel) (Nat.le_of_ble_eq_true rfl) (fun p e s m args below meth c A C hP hD ls hl => ?_)
  have hl : lv_has ls 2 [(0, .ref (aM 0)), (1, .int p1)] := hl
  have hS : va_S A s.heap s.heap [] := va_S.rf
  obtain ⟨hx, hb, hr, hml, hown, hK, hts, hA, hG, hlk, hte, hnm⟩ := id C
  replace h : (if p1 < 0 then some ((1 : Int32), M) else (if p1 < M.2.1 then some ((0 : Int32), M) else some ((1 : Int32), M))) = some r := h
  refine lv_iload_n hx hb dX6_noBit_0 rfl (lv_at hl 1 rfl) ?_
  refine lv_if_lt (tgt := 12) hx hb dX6_noBit_1 (by decide) (fun c9 => ?_) (fun c9 => ?_)
  · replace h := xi_t c9 h
    refine lv_iconst (v := (1 : Int32)) hx hb dX6_noBit_12 (by decide) ?_
    refine lv_goto (tgt := 17) hx hb dX6_noBit_13 (by decide) ?_
    obtain rfl := Option.some.inj h
    exact xe_z (r := (1 : Int32)) C xz1 hP hD hS dX6_noBit_17
  · replace h := xi_f c9 h
    refine lv_iload_n hx hb dX6_noBit_4 rfl (lv_at hl 1 rfl) ?_
    refine lv_aload_n hx hb dX6_noBit_5 rfl (lv_at hl 0 rfl) ?_
    refine va_get (D := D) (ci := 6) (v := .int M.2.1) (C := RX6) (T := TX6) (N := 21) hx hb hts xu_X6 hown hK hP 0 rfl rfl 1 (by decide) (hts _ xw_508) (fun _ h9 => h9) rfl dX6_noBit_6 ?_
    refine lv_icmp_lt (tgt := 16) hx hb dX6_noBit_9 (by decide) (fun c9 => ?_) (fun c9 => ?_)
    · replace h := xi_t c9 h
      refine lv_iconst (v := (0 : Int32)) hx hb dX6_noBit_16 (by decide) ?_
      obtain rfl := Option.some.inj h
      exact xe_z (r := (0 : Int32)) C xz0 hP hD hS dX6_noBit_17
    · replace h := xi_f c9 h
      refine lv_iconst (v := (1 : Int32)) hx hb dX6_noBit_12 (by decide) ?_
      refine lv_goto (tgt := 17) hx hb dX6_noBit_13 (by decide) ?_
      obtain rfl := Option.some.inj h
      exact xe_z (r := (1 : Int32)) C xz1 hP hD hS dX6_noBit_17
abbrev oX6_bit (aM : Nat → Nat) (K : Nat → ClassId) (q : Int32 × (S6)) : xO := .inr ((some (.int q.1)), w6 aM K q.2)
def fX6_bit_14 (M : S6) (x1 : Int32) (t1 : Int32) : Option (Int32 × (S6)) := (if t1 = 0 then (if x1 < 0 ∨ 2000 ≤ (x1).toNatClampNeg then none else (if (M.2.2.1 (x1).toNatClampNeg) = 0 then some ((0 : Int32), (t1, M.2.1, M.2.2.1, M.2.2.2.1, M.2.2.2.2.1, M.2.2.2.2.2.1, M.2.2.2.2.2.2.1, M.2.2.2.2.2.2.2.1, M.2.2.2.2.2.2.2.2.1, M.2.2.2.2.2.2.2.2.2.1, M.2.2.2.2.2.2.2.2.2.2.1, M.2.2.2.2.2.2.2.2.2.2.2.1, M.2.2.2.2.2.2.2.2.2.2.2.2.1, M.2.2.2.2.2.2.2.2.2.2.2.2.2.1, M.2.2.2.2.2.2.2.2.2.2.2.2.2.2.1, M.2.2.2.2.2.2.2.2.2.2.2.2.2.2.2.1, M.2.2.2.2.2.2.2.2.2.2.2.2.2.2.2.2.1, M.2.2.2.2.2.2.2.2.2.2.2.2.2.2.2.2.2.1, M.2.2.2.2.2.2.2.2.2.2.2.2.2.2.2.2.2.2.1, M.2.2.2.2.2.2.2.2.2.2.2.2.2.2.2.2.2.2.2.1, M.2.2.2.2.2.2.2.2.2.2.2.2.2.2.2.2.2.2.2.2)) else some ((1 : Int32), (t1, M.2.1, M.2.2.1, M.2.2.2.1, M.2.2.2.2.1, M.2.2.2.2.2.1, M.2.2.2.2.2.2.1, M.2.2.2.2.2.2.2.1, M.2.2.2.2.2.2.2.2.1, M.2.2.2.2.2.2.2.2.2.1, M.2.2.2.2.2.2.2.2.2.2.1, M.2.2.2.2.2.2.2.2.2.2.2.1, M.2.2.2.2.2.2.2.2.2.2.2.2.1, M.2.2.2.2.2.2.2.2.2.2.2.2.2.1, M.2.2.2.2.2.2.2.2.2.2.2.2.2.2.1, M.2.2.2.2.2.2.2.2.2.2.2.2.2.2.2.1, M.2.2.2.2.2.2.2.2.2.2.2.2.2.2.2.2.1, M.2.2.2.2.2.2.2.2.2.2.2.2.2.2.2.2.2.1, M.2.2.2.2.2.2.2.2.2.2.2.2.2.2.2.2.2.2.1, M.2.2.2.2.2.2.2.2.2.2.2.2.2.2.2.2.2.2.2.1, M.2.2.2.2.2.2.2.2.2.2.2.2.2.2.2.2.2.2.2.2)))) else some ((0 : Int32), (t1, M.2.1, M.2.2.1, M.2.2.2.1, M.2.2.2.2.1, M.2.2.2.2.2.1, M.2.2.2.2.2.2.1, M.2.2.2.2.2.2.2.1, M.2.2.2.2.2.2.2.2.1, M.2.2.2.2.2.2.2.2.2.1, M.2.2.2.2.2.2.2.2.2.2.1, M.2.2.2.2.2.2.2.2.2.2.2.1, M.2.2.2.2.2.2.2.2.2.2.2.2.1, M.2.2.2.2.2.2.2.2.2.2.2.2.2.1, M.2.2.2.2.2.2.2.2.2.2.2.2.2.2.1, M.2.2.2.2.2.2.2.2.2.2.2.2.2.2.2.1, M.2.2.2.2.2.2.2.2.2.2.2.2.2.2.2.2.1, M.2.2.2.2.2.2.2.2.2.2.2.2.2.2.2.2.2.1, M.2.2.2.2.2.2.2.2.2.2.2.2.2.2.2.2.2.2.1, M.2.2.2.2.2.2.2.2.2.2.2.2.2.2.2.2.2.2.2.1, M.2.2.2.2.2.2.2.2.2.2.2.2.2.2.2.2.2.2.2.2)))
def fX6_bit (M : S6) (p1 : Int32) : Option (Int32 × (S6)) := xbnd0 (fX6_noBit M p1) (fun v_1 s_2 => (if v_1 = 0 then fX6_bit_14 s_2 p1 (0 : Int32) else fX6_bit_14 s_2 p1 (1 : Int32)))
set_option maxHeartbeats 4000000 in
set_option maxRecDepth 100000 in
theorem kX6_bit_14 {p : Program} {l : Launch} {e : Env} {s : State} {m : MethodId} {args : Array Value} {below : List Frame} {meth : Method} {c : Code} {D : va_G} {K : Nat → ClassId} {A : Nat → Prop} {aM : Nat → Nat} (C : xC p s m args meth c cX6_bit 2 (some .boolean) yX6_bit D K A []) : ∀ (M : S6) (x1 : Int32) (t1 : Int32) (r : Int32 × (S6)), fX6_bit_14  M x1 t1 = some r → ∀ (H : Heap) (locs : List Loc) (ls : Array Slot), va_P D vwCl (w6 aM K M) H → va_D A (w6 aM K M) → va_S A s.heap H locs → lv_has ls 2 [(0, .ref (aM 0)), (1, .int x1)] → W p l e (xR 1 21 (oX6_bit aM K r)) s m args below meth c H locs 0 0 (xQ below args s D K A (oX6_bit aM K r)) (F0 m 14 ls [.int t1, .ref (aM 0)]) := by
  obtain ⟨hx, hb, hr, hml, hown, hK, hts, hA, hG, hlk, hte, hnm⟩ := id C
  intro M x1 t1 r h H locs ls hP hD hS hl
  replace h : (if t1 = 0 then (if x1 < 0 ∨ 2000 ≤ (x1).toNatClampNeg then none else (if (M.2.2.1 (x1).toNatClampNeg) = 0 then some ((0 : Int32), (t1, M.2.1, M.2.2.1, M.2.2.2.1, M.2.2.2.2.1, M.2.2.2.2.2.1, M.2.2.2.2.2.2.1, M.2.2.2.2.2.2.2.1, M.2.2.2.2.2.2.2.2.1, M.2.2.2.2.2.2.2.2.2.1, M.2.2.2.2.2.2.2.2.2.2.1, M.2.2.2.2.2.2.2.2.2.2.2.1, M.2.2.2.2.2.2.2.2.2.2.2.2.1, M.2.2.2.2.2.2.2.2.2.2.2.2.2.1, M.2.2.2.2.2.2.2.2.2.2.2.2.2.2.1, M.2.2.2.2.2.2.2.2.2.2.2.2.2.2.2.1, M.2.2.2.2.2.2.2.2.2.2.2.2.2.2.2.2.1, M.2.2.2.2.2.2.2.2.2.2.2.2.2.2.2.2.2.1, M.2.2.2.2.2.2.2.2.2.2.2.2.2.2.2.2.2.2.1, M.2.2.2.2.2.2.2.2.2.2.2.2.2.2.2.2.2.2.2.1, M.2.2.2.2.2.2.2.2.2.2.2.2.2.2.2.2.2.2.2.2)) else some ((1 : Int32), (t1, M.2.1, M.2.2.1, M.2.2.2.1, M.2.2.2.2.1, M.2.2.2.2.2.1, M.2.2.2.2.2.2.1, M.2.2.2.2.2.2.2.1, M.2.2.2.2.2.2.2.2.1, M.2.2.2.2.2.2.2.2.2.1, M.2.2.2.2.2.2.2.2.2.2.1, M.2.2.2.2.2.2.2.2.2.2.2.1, M.2.2.2.2.2.2.2.2.2.2.2.2.1, M.2.2.2.2.2.2.2.2.2.2.2.2.2.1, M.2.2.2.2.2.2.2.2.2.2.2.2.2.2.1, M.2.2.2.2.2.2.2.2.2.2.2.2.2.2.2.1, M.2.2.2.2.2.2.2.2.2.2.2.2.2.2.2.2.1, M.2.2.2.2.2.2.2.2.2.2.2.2.2.2.2.2.2.1, M.2.2.2.2.2.2.2.2.2.2.2.2.2.2.2.2.2.2.1, M.2.2.2.2.2.2.2.2.2.2.2.2.2.2.2.2.2.2.2.1, M.2.2.2.2.2.2.2.2.2.2.2.2.2.2.2.2.2.2.2.2)))) else some ((0 : Int32), (t1, M.2.1, M.2.2.1, M.2.2.2.1, M.2.2.2.2.1, M.2.2.2.2.2.1, M.2.2.2.2.2.2.1, M.2.2.2.2.2.2.2.1, M.2.2.2.2.2.2.2.2.1, M.2.2.2.2.2.2.2.2.2.1, M.2.2.2.2.2.2.2.2.2.2.1, M.2.2.2.2.2.2.2.2.2.2.2.1, M.2.2.2.2.2.2.2.2.2.2.2.2.1, M.2.2.2.2.2.2.2.2.2.2.2.2.2.1, M.2.2.2.2.2.2.2.2.2.2.2.2.2.2.1, M.2.2.2.2.2.2.2.2.2.2.2.2.2.2.2.1, M.2.2.2.2.2.2.2.2.2.2.2.2.2.2.2.2.1, M.2.2.2.2.2.2.2.2.2.2.2.2.2.2.2.2.2.1, M.2.2.2.2.2.2.2.2.2.2.2.2.2.2.2.2.2.2.1, M.2.2.2.2.2.2.2.2.2.2.2.2.2.2.2.2.2.2.2.1, M.2.2.2.2.2.2.2.2.2.2.2.2.2.2.2.2.2.2.2.2))) = some r := h
  refine va_put (D := D) (ci := 6) (v := .int t1) (ty := .int) (C := RX6) (T := TX6) (N := 21) hx hb hts xu_X6 tyX6 tyX6_ok nmX6 hown hK hP hD hS 0 rfl rfl 0 (by decide) (hts _ xw_507) (fun _ h9 => h9) rfl (by decide +kernel) rfl rfl (Nat.le_of_ble_eq_true rfl) dX6_bit_14 (fun H locs hP hD hS => ?_)
  have hP : va_P D vwCl (w6 aM K (t1, M.2.1, M.2.2.1, M.2.2.2.1, M.2.2.2.2.1, M.2.2.2.2.2.1, M.2.2.2.2.2.2.1, M.2.2.2.2.2.2.2.1, M.2.2.2.2.2.2.2.2.1, M.2.2.2.2.2.2.2.2.2.1, M.2.2.2.2.2.2.2.2.2.2.1, M.2.2.2.2.2.2.2.2.2.2.2.1, M.2.2.2.2.2.2.2.2.2.2.2.2.1, M.2.2.2.2.2.2.2.2.2.2.2.2.2.1, M.2.2.2.2.2.2.2.2.2.2.2.2.2.2.1, M.2.2.2.2.2.2.2.2.2.2.2.2.2.2.2.1, M.2.2.2.2.2.2.2.2.2.2.2.2.2.2.2.2.1, M.2.2.2.2.2.2.2.2.2.2.2.2.2.2.2.2.2.1, M.2.2.2.2.2.2.2.2.2.2.2.2.2.2.2.2.2.2.1, M.2.2.2.2.2.2.2.2.2.2.2.2.2.2.2.2.2.2.2.1, M.2.2.2.2.2.2.2.2.2.2.2.2.2.2.2.2.2.2.2.2)) H := hP
  have hD : va_D A (w6 aM K (t1, M.2.1, M.2.2.1, M.2.2.2.1, M.2.2.2.2.1, M.2.2.2.2.2.1, M.2.2.2.2.2.2.1, M.2.2.2.2.2.2.2.1, M.2.2.2.2.2.2.2.2.1, M.2.2.2.2.2.2.2.2.2.1, M.2.2.2.2.2.2.2.2.2.2.1, M.2.2.2.2.2.2.2.2.2.2.2.1, M.2.2.2.2.2.2.2.2.2.2.2.2.1, M.2.2.2.2.2.2.2.2.2.2.2.2.2.1, M.2.2.2.2.2.2.2.2.2.2.2.2.2.2.1, M.2.2.2.2.2.2.2.2.2.2.2.2.2.2.2.1, M.2.2.2.2.2.2.2.2.2.2.2.2.2.2.2.2.1, M.2.2.2.2.2.2.2.2.2.2.2.2.2.2.2.2.2.1, M.2.2.2.2.2.2.2.2.2.2.2.2.2.2.2.2.2.2.1, M.2.2.2.2.2.2.2.2.2.2.2.2.2.2.2.2.2.2.2.1, M.2.2.2.2.2.2.2.2.2.2.2.2.2.2.2.2.2.2.2.2)) := hD
  refine lv_aload_n hx hb dX6_bit_17 rfl (lv_at hl 0 rfl) ?_
  refine va_get (D := D) (ci := 6) (v := .int t1) (C := RX6) (T := TX6) (N := 21) hx hb hts xu_X6 hown hK hP 0 rfl rfl 0 (by decide) (hts _ xw_507) (fun _ h9 => h9) rfl dX6_bit_18 ?_
  refine lv_if_ne (tgt := 37) hx hb dX6_bit_21 (by decide) (fun c9 => ?_) (fun c9 => ?_)
  · replace h := xi_f c9 h
    refine lv_iconst (v := (0 : Int32)) hx hb dX6_bit_37 (by decide) ?_
    obtain rfl := Option.some.inj h
    exact xe_z (r := (0 : Int32)) C xz0 hP hD hS dX6_bit_38
  · replace h := xi_t c9 h
    refine lv_aload_n hx hb dX6_bit_24 rfl (lv_at hl 0 rfl) ?_
    refine va_get (D := D) (ci := 6) (v := .ref (aM 1)) (C := RX6) (T := TX6) (N := 21) hx hb hts xu_X6 hown hK hP 0 rfl rfl 2 (by decide) (hts _ xw_509) (fun _ h9 => h9) rfl dX6_bit_25 ?_
    refine lv_iload_n hx hb dX6_bit_28 rfl (lv_at hl 1 rfl) ?_
    obtain ⟨hi9, h⟩ := xi_g h
    refine va_zald hx hb hK hP 1 1 rfl rfl hi9 dX6_bit_29 ?_
    refine lv_if_eq (tgt := 37) hx hb dX6_bit_30 (by decide) (fun c9 => ?_) (fun c9 => ?_)
    · replace h := xi_t c9 h
      refine lv_iconst (v := (0 : Int32)) hx hb dX6_bit_37 (by decide) ?_
      obtain rfl := Option.some.inj h
      exact xe_z (r := (0 : Int32)) C xz0 hP hD hS dX6_bit_38
    · replace h := xi_f c9 h
      refine lv_iconst (v := (1 : Int32)) hx hb dX6_bit_33 (by decide) ?_
      refine lv_goto (tgt := 38) hx hb dX6_bit_34 (by decide) ?_
      obtain rfl := Option.some.inj h
      exact xe_z (r := (1 : Int32)) C xz1 hP hD hS dX6_bit_38
set_option maxHeartbeats 4000000 in
set_option maxRecDepth 100000 in
theorem mX6_bit (l : Launch) (D : va_G) (K : Nat → ClassId) (aM : Nat → Nat) (sz : Nat) (M : S6) (p1 : Int32) (r : Int32 × (S6)) (h : fX6_bit M p1 = some r) : xMet l yX6_bit cX6_bit 2 (some .boolean) 1 21 D K [.ref (aM 0), .int p1] sz (w6 aM K M) (oX6_bit aM K r) := by
  refine xm_of _ (by decide +kernel) (Nat.le_of_ble_eq_true rfl) (fun p e s m args below meth c A C hP hD ls hl => ?_)
  have hl : lv_has ls 2 [(0, .ref (aM 0)), (1, .int p1)] := hl
  have hS : va_S A s.heap s.heap [] := va_S.rf
  obtain ⟨hx, hb, hr, hml, hown, hK, hts, hA, hG, hlk, hte, hnm⟩ := id C
  replace h : xbnd0 (fX6_noBit M p1) (fun v_1 s_2 => (if v_1 = 0 then fX6_bit_14 s_2 p1 (0 : Int32) else fX6_bit_14 s_2 p1 (1 : Int32))) = some r := h
  refine lv_aload_n hx hb dX6_bit_0 rfl (lv_at hl 0 rfl) ?_
  refine lv_aload_n hx hb dX6_bit_1 rfl (lv_at hl 0 rfl) ?_
  refine lv_iload_n hx hb dX6_bit_2 rfl (lv_at hl 1 rfl) ?_
  obtain ⟨v_1, s_2, hc9, h⟩ := xi_d h
  refine xc_V (As := [.int p1]) (ws' := w6 aM K s_2) C (mX6_noBit l D K aM _ _ _ _ hc9) xgi_X6_55 xd_X6_noBit ⟨Nat.le_of_ble_eq_true rfl, Nat.le_of_ble_eq_true rfl⟩ ⟨Nat.zero_le _, Nat.zero_le _⟩ hl rfl (Nat.le_of_ble_eq_true rfl) dX6_bit_3 hP hD hS 0 6 rfl rfl rfl [0, 1, 2, 3, 4, 5, 6, 7, 8, 9, 10, 11] rfl rfl [(0, w6 aM K s_2)] rfl rfl rfl (List.forall_mem_cons.mpr ⟨Nat.le_of_ble_eq_true rfl, (fun _ h => absurd h List.not_mem_nil)⟩) (fun H locs hP hD hS => ?_)
  refine W.eq (g2 := F0 m 6 ls [.int v_1, .ref (aM 0)]) rfl ?_
  refine lv_if_eq (tgt := 13) hx hb dX6_bit_6 (by decide) (fun c9 => ?_) (fun c9 => ?_)
  · replace h := xi_t c9 h
    refine lv_iconst (v := (0 : Int32)) hx hb dX6_bit_13 (by decide) ?_
    exact kX6_bit_14 C _ _ _ _ h _ _ _ hP hD hS (lv_sub hl [0, 1] rfl)
  · replace h := xi_f c9 h
    refine lv_iconst (v := (1 : Int32)) hx hb dX6_bit_9 (by decide) ?_
    refine lv_goto (tgt := 14) hx hb dX6_bit_10 (by decide) ?_
    exact kX6_bit_14 C _ _ _ _ h _ _ _ hP hD hS (lv_sub hl [0, 1] rfl)
abbrev oX6_flip (aM : Nat → Nat) (K : Nat → ClassId) (q : Unit × (S6)) : xO := .inr (none, w6 aM K q.2)
def fX6_flip_43 (M : S6) (t1 : Int32) (t2 : Int32) : Option (Unit × (S6)) := (if t1 < 0 ∨ 2000 ≤ (t1).toNatClampNeg then none else some ((), (M.1, M.2.1, (upd M.2.2.1 (t1).toNatClampNeg (vp_nar .boolean t2)), M.2.2.2.1, M.2.2.2.2.1, M.2.2.2.2.2.1, M.2.2.2.2.2.2.1, M.2.2.2.2.2.2.2.1, M.2.2.2.2.2.2.2.2.1, M.2.2.2.2.2.2.2.2.2.1, M.2.2.2.2.2.2.2.2.2.2.1, M.2.2.2.2.2.2.2.2.2.2.2.1, M.2.2.2.2.2.2.2.2.2.2.2.2.1, M.2.2.2.2.2.2.2.2.2.2.2.2.2.1, M.2.2.2.2.2.2.2.2.2.2.2.2.2.2.1, M.2.2.2.2.2.2.2.2.2.2.2.2.2.2.2.1, M.2.2.2.2.2.2.2.2.2.2.2.2.2.2.2.2.1, M.2.2.2.2.2.2.2.2.2.2.2.2.2.2.2.2.2.1, M.2.2.2.2.2.2.2.2.2.2.2.2.2.2.2.2.2.2.1, M.2.2.2.2.2.2.2.2.2.2.2.2.2.2.2.2.2.2.2.1, M.2.2.2.2.2.2.2.2.2.2.2.2.2.2.2.2.2.2.2.2)))
def fX6_flip_14 (M : S6) (x1 : Int32) (t1 : Int32) : Option (Unit × (S6)) := (if t1 = 0 then (if x1 < 0 ∨ 2000 ≤ (x1).toNatClampNeg then none else (if (M.2.2.1 (x1).toNatClampNeg) = 0 then fX6_flip_43 (t1, M.2.1, M.2.2.1, M.2.2.2.1, M.2.2.2.2.1, M.2.2.2.2.2.1, M.2.2.2.2.2.2.1, M.2.2.2.2.2.2.2.1, M.2.2.2.2.2.2.2.2.1, M.2.2.2.2.2.2.2.2.2.1, M.2.2.2.2.2.2.2.2.2.2.1, M.2.2.2.2.2.2.2.2.2.2.2.1, M.2.2.2.2.2.2.2.2.2.2.2.2.1, M.2.2.2.2.2.2.2.2.2.2.2.2.2.1, M.2.2.2.2.2.2.2.2.2.2.2.2.2.2.1, M.2.2.2.2.2.2.2.2.2.2.2.2.2.2.2.1, M.2.2.2.2.2.2.2.2.2.2.2.2.2.2.2.2.1, M.2.2.2.2.2.2.2.2.2.2.2.2.2.2.2.2.2.1, M.2.2.2.2.2.2.2.2.2.2.2.2.2.2.2.2.2.2.1, M.2.2.2.2.2.2.2.2.2.2.2.2.2.2.2.2.2.2.2.1, M.2.2.2.2.2.2.2.2.2.2.2.2.2.2.2.2.2.2.2.2) x1 (1 : Int32) else fX6_flip_43 (t1, M.2.1, M.2.2.1, M.2.2.2.1, M.2.2.2.2.1, M.2.2.2.2.2.1, M.2.2.2.2.2.2.1, M.2.2.2.2.2.2.2.1, M.2.2.2.2.2.2.2.2.1, M.2.2.2.2.2.2.2.2.2.1, M.2.2.2.2.2.2.2.2.2.2.1, M.2.2.2.2.2.2.2.2.2.2.2.1, M.2.2.2.2.2.2.2.2.2.2.2.2.1, M.2.2.2.2.2.2.2.2.2.2.2.2.2.1, M.2.2.2.2.2.2.2.2.2.2.2.2.2.2.1, M.2.2.2.2.2.2.2.2.2.2.2.2.2.2.2.1, M.2.2.2.2.2.2.2.2.2.2.2.2.2.2.2.2.1, M.2.2.2.2.2.2.2.2.2.2.2.2.2.2.2.2.2.1, M.2.2.2.2.2.2.2.2.2.2.2.2.2.2.2.2.2.2.1, M.2.2.2.2.2.2.2.2.2.2.2.2.2.2.2.2.2.2.2.1, M.2.2.2.2.2.2.2.2.2.2.2.2.2.2.2.2.2.2.2.2) x1 (0 : Int32))) else some ((), (t1, M.2.1, M.2.2.1, M.2.2.2.1, M.2.2.2.2.1, M.2.2.2.2.2.1, M.2.2.2.2.2.2.1, M.2.2.2.2.2.2.2.1, M.2.2.2.2.2.2.2.2.1, M.2.2.2.2.2.2.2.2.2.1, M.2.2.2.2.2.2.2.2.2.2.1, M.2.2.2.2.2.2.2.2.2.2.2.1, M.2.2.2.2.2.2.2.2.2.2.2.2.1, M.2.2.2.2.2.2.2.2.2.2.2.2.2.1, M.2.2.2.2.2.2.2.2.2.2.2.2.2.2.1, M.2.2.2.2.2.2.2.2.2.2.2.2.2.2.2.1, M.2.2.2.2.2.2.2.2.2.2.2.2.2.2.2.2.1, M.2.2.2.2.2.2.2.2.2.2.2.2.2.2.2.2.2.1, M.2.2.2.2.2.2.2.2.2.2.2.2.2.2.2.2.2.2.1, M.2.2.2.2.2.2.2.2.2.2.2.2.2.2.2.2.2.2.2.1, M.2.2.2.2.2.2.2.2.2.2.2.2.2.2.2.2.2.2.2.2)))
def fX6_flip (M : S6) (p1 : Int32) : Option (Unit × (S6)) := xbnd0 (fX6_noBit M p1) (fun v_1 s_2 => (if v_1 = 0 then fX6_flip_14 s_2 p1 (0 : Int32) else fX6_flip_14 s_2 p1 (1 : Int32)))
set_option maxHeartbeats 4000000 in
set_option maxRecDepth 100000 in
theorem kX6_flip_43 {p : Program} {l : Launch} {e : Env} {s : State} {m : MethodId} {args : Array Value} {below : List Frame} {meth : Method} {c : Code} {D : va_G} {K : Nat → ClassId} {A : Nat → Prop} {aM : Nat → Nat} (C : xC p s m args meth c cX6_flip 2 none yX6_flip D K A []) : ∀ (M : S6) (t1 : Int32) (t2 : Int32) (r : Unit × (S6)), fX6_flip_43  M t1 t2 = some r → ∀ (H : Heap) (locs : List Loc) (ls : Array Slot), va_P D vwCl (w6 aM K M) H → va_D A (w6 aM K M) → va_S A s.heap H locs → lv_has ls 2 [] → W p l e (xR 1 21 (oX6_flip aM K r)) s m args below meth c H locs 0 0 (xQ below args s D K A (oX6_flip aM K r)) (F0 m 43 ls [.int t2, .int t1, .ref (aM 1)]) := by
  obtain ⟨hx, hb, hr, hml, hown, hK, hts, hA, hG, hlk, hte, hnm⟩ := id C
  intro M t1 t2 r h H locs ls hP hD hS hl
  replace h : (if t1 < 0 ∨ 2000 ≤ (t1).toNatClampNeg then none else some ((), (M.1, M.2.1, (upd M.2.2.1 (t1).toNatClampNeg (vp_nar .boolean t2)), M.2.2.2.1, M.2.2.2.2.1, M.2.2.2.2.2.1, M.2.2.2.2.2.2.1, M.2.2.2.2.2.2.2.1, M.2.2.2.2.2.2.2.2.1, M.2.2.2.2.2.2.2.2.2.1, M.2.2.2.2.2.2.2.2.2.2.1, M.2.2.2.2.2.2.2.2.2.2.2.1, M.2.2.2.2.2.2.2.2.2.2.2.2.1, M.2.2.2.2.2.2.2.2.2.2.2.2.2.1, M.2.2.2.2.2.2.2.2.2.2.2.2.2.2.1, M.2.2.2.2.2.2.2.2.2.2.2.2.2.2.2.1, M.2.2.2.2.2.2.2.2.2.2.2.2.2.2.2.2.1, M.2.2.2.2.2.2.2.2.2.2.2.2.2.2.2.2.2.1, M.2.2.2.2.2.2.2.2.2.2.2.2.2.2.2.2.2.2.1, M.2.2.2.2.2.2.2.2.2.2.2.2.2.2.2.2.2.2.2.1, M.2.2.2.2.2.2.2.2.2.2.2.2.2.2.2.2.2.2.2.2))) = some r := h
  obtain ⟨hi9, h⟩ := xi_g h
  refine va_zast hx hb hK hP hD hS 1 1 rfl rfl hi9 dX6_flip_43 (fun H locs hP hD hS => ?_)
  have hP : va_P D vwCl (w6 aM K (M.1, M.2.1, (upd M.2.2.1 (t1).toNatClampNeg (vp_nar .boolean t2)), M.2.2.2.1, M.2.2.2.2.1, M.2.2.2.2.2.1, M.2.2.2.2.2.2.1, M.2.2.2.2.2.2.2.1, M.2.2.2.2.2.2.2.2.1, M.2.2.2.2.2.2.2.2.2.1, M.2.2.2.2.2.2.2.2.2.2.1, M.2.2.2.2.2.2.2.2.2.2.2.1, M.2.2.2.2.2.2.2.2.2.2.2.2.1, M.2.2.2.2.2.2.2.2.2.2.2.2.2.1, M.2.2.2.2.2.2.2.2.2.2.2.2.2.2.1, M.2.2.2.2.2.2.2.2.2.2.2.2.2.2.2.1, M.2.2.2.2.2.2.2.2.2.2.2.2.2.2.2.2.1, M.2.2.2.2.2.2.2.2.2.2.2.2.2.2.2.2.2.1, M.2.2.2.2.2.2.2.2.2.2.2.2.2.2.2.2.2.2.1, M.2.2.2.2.2.2.2.2.2.2.2.2.2.2.2.2.2.2.2.1, M.2.2.2.2.2.2.2.2.2.2.2.2.2.2.2.2.2.2.2.2)) H := hP
  have hD : va_D A (w6 aM K (M.1, M.2.1, (upd M.2.2.1 (t1).toNatClampNeg (vp_nar .boolean t2)), M.2.2.2.1, M.2.2.2.2.1, M.2.2.2.2.2.1, M.2.2.2.2.2.2.1, M.2.2.2.2.2.2.2.1, M.2.2.2.2.2.2.2.2.1, M.2.2.2.2.2.2.2.2.2.1, M.2.2.2.2.2.2.2.2.2.2.1, M.2.2.2.2.2.2.2.2.2.2.2.1, M.2.2.2.2.2.2.2.2.2.2.2.2.1, M.2.2.2.2.2.2.2.2.2.2.2.2.2.1, M.2.2.2.2.2.2.2.2.2.2.2.2.2.2.1, M.2.2.2.2.2.2.2.2.2.2.2.2.2.2.2.1, M.2.2.2.2.2.2.2.2.2.2.2.2.2.2.2.2.1, M.2.2.2.2.2.2.2.2.2.2.2.2.2.2.2.2.2.1, M.2.2.2.2.2.2.2.2.2.2.2.2.2.2.2.2.2.2.1, M.2.2.2.2.2.2.2.2.2.2.2.2.2.2.2.2.2.2.2.1, M.2.2.2.2.2.2.2.2.2.2.2.2.2.2.2.2.2.2.2.2)) := hD
  obtain rfl := Option.some.inj h
  exact xe_v C hP hD hS dX6_flip_44
set_option maxHeartbeats 4000000 in
set_option maxRecDepth 100000 in
theorem kX6_flip_14 {p : Program} {l : Launch} {e : Env} {s : State} {m : MethodId} {args : Array Value} {below : List Frame} {meth : Method} {c : Code} {D : va_G} {K : Nat → ClassId} {A : Nat → Prop} {aM : Nat → Nat} (C : xC p s m args meth c cX6_flip 2 none yX6_flip D K A []) : ∀ (M : S6) (x1 : Int32) (t1 : Int32) (r : Unit × (S6)), fX6_flip_14  M x1 t1 = some r → ∀ (H : Heap) (locs : List Loc) (ls : Array Slot), va_P D vwCl (w6 aM K M) H → va_D A (w6 aM K M) → va_S A s.heap H locs → lv_has ls 2 [(0, .ref (aM 0)), (1, .int x1)] → W p l e (xR 1 21 (oX6_flip aM K r)) s m args below meth c H locs 0 0 (xQ below args s D K A (oX6_flip aM K r)) (F0 m 14 ls [.int t1, .ref (aM 0)]) := by
  obtain ⟨hx, hb, hr, hml, hown, hK, hts, hA, hG, hlk, hte, hnm⟩ := id C
  intro M x1 t1 r h H locs ls hP hD hS hl
  replace h : (if t1 = 0 then (if x1 < 0 ∨ 2000 ≤ (x1).toNatClampNeg then none else (if (M.2.2.1 (x1).toNatClampNeg) = 0 then fX6_flip_43 (t1, M.2.1, M.2.2.1, M.2.2.2.1, M.2.2.2.2.1, M.2.2.2.2.2.1, M.2.2.2.2.2.2.1, M.2.2.2.2.2.2.2.1, M.2.2.2.2.2.2.2.2.1, M.2.2.2.2.2.2.2.2.2.1, M.2.2.2.2.2.2.2.2.2.2.1, M.2.2.2.2.2.2.2.2.2.2.2.1, M.2.2.2.2.2.2.2.2.2.2.2.2.1, M.2.2.2.2.2.2.2.2.2.2.2.2.2.1, M.2.2.2.2.2.2.2.2.2.2.2.2.2.2.1, M.2.2.2.2.2.2.2.2.2.2.2.2.2.2.2.1, M.2.2.2.2.2.2.2.2.2.2.2.2.2.2.2.2.1, M.2.2.2.2.2.2.2.2.2.2.2.2.2.2.2.2.2.1, M.2.2.2.2.2.2.2.2.2.2.2.2.2.2.2.2.2.2.1, M.2.2.2.2.2.2.2.2.2.2.2.2.2.2.2.2.2.2.2.1, M.2.2.2.2.2.2.2.2.2.2.2.2.2.2.2.2.2.2.2.2) x1 (1 : Int32) else fX6_flip_43 (t1, M.2.1, M.2.2.1, M.2.2.2.1, M.2.2.2.2.1, M.2.2.2.2.2.1, M.2.2.2.2.2.2.1, M.2.2.2.2.2.2.2.1, M.2.2.2.2.2.2.2.2.1, M.2.2.2.2.2.2.2.2.2.1, M.2.2.2.2.2.2.2.2.2.2.1, M.2.2.2.2.2.2.2.2.2.2.2.1, M.2.2.2.2.2.2.2.2.2.2.2.2.1, M.2.2.2.2.2.2.2.2.2.2.2.2.2.1, M.2.2.2.2.2.2.2.2.2.2.2.2.2.2.1, M.2.2.2.2.2.2.2.2.2.2.2.2.2.2.2.1, M.2.2.2.2.2.2.2.2.2.2.2.2.2.2.2.2.1, M.2.2.2.2.2.2.2.2.2.2.2.2.2.2.2.2.2.1, M.2.2.2.2.2.2.2.2.2.2.2.2.2.2.2.2.2.2.1, M.2.2.2.2.2.2.2.2.2.2.2.2.2.2.2.2.2.2.2.1, M.2.2.2.2.2.2.2.2.2.2.2.2.2.2.2.2.2.2.2.2) x1 (0 : Int32))) else some ((), (t1, M.2.1, M.2.2.1, M.2.2.2.1, M.2.2.2.2.1, M.2.2.2.2.2.1, M.2.2.2.2.2.2.1, M.2.2.2.2.2.2.2.1, M.2.2.2.2.2.2.2.2.1, M.2.2.2.2.2.2.2.2.2.1, M.2.2.2.2.2.2.2.2.2.2.1, M.2.2.2.2.2.2.2.2.2.2.2.1, M.2.2.2.2.2.2.2.2.2.2.2.2.1, M.2.2.2.2.2.2.2.2.2.2.2.2.2.1, M.2.2.2.2.2.2.2.2.2.2.2.2.2.2.1, M.2.2.2.2.2.2.2.2.2.2.2.2.2.2.2.1, M.2.2.2.2.2.2.2.2.2.2.2.2.2.2.2.2.1, M.2.2.2.2.2.2.2.2.2.2.2.2.2.2.2.2.2.1, M.2.2.2.2.2.2.2.2.2.2.2.2.2.2.2.2.2.2.1, M.2.2.2.2.2.2.2.2.2.2.2.2.2.2.2.2.2.2.2.1, M.2.2.2.2.2.2.2.2.2.2.2.2.2.2.2.2.2.2.2.2))) = some r := h
  refine va_put (D := D) (ci := 6) (v := .int t1) (ty := .int) (C := RX6) (T := TX6) (N := 21) hx hb hts xu_X6 tyX6 tyX6_ok nmX6 hown hK hP hD hS 0 rfl rfl 0 (by decide) (hts _ xw_507) (fun _ h9 => h9) rfl (by decide +kernel) rfl rfl (Nat.le_of_ble_eq_true rfl) dX6_flip_14 (fun H locs hP hD hS => ?_)
  have hP : va_P D vwCl (w6 aM K (t1, M.2.1, M.2.2.1, M.2.2.2.1, M.2.2.2.2.1, M.2.2.2.2.2.1, M.2.2.2.2.2.2.1, M.2.2.2.2.2.2.2.1, M.2.2.2.2.2.2.2.2.1, M.2.2.2.2.2.2.2.2.2.1, M.2.2.2.2.2.2.2.2.2.2.1, M.2.2.2.2.2.2.2.2.2.2.2.1, M.2.2.2.2.2.2.2.2.2.2.2.2.1, M.2.2.2.2.2.2.2.2.2.2.2.2.2.1, M.2.2.2.2.2.2.2.2.2.2.2.2.2.2.1, M.2.2.2.2.2.2.2.2.2.2.2.2.2.2.2.1, M.2.2.2.2.2.2.2.2.2.2.2.2.2.2.2.2.1, M.2.2.2.2.2.2.2.2.2.2.2.2.2.2.2.2.2.1, M.2.2.2.2.2.2.2.2.2.2.2.2.2.2.2.2.2.2.1, M.2.2.2.2.2.2.2.2.2.2.2.2.2.2.2.2.2.2.2.1, M.2.2.2.2.2.2.2.2.2.2.2.2.2.2.2.2.2.2.2.2)) H := hP
  have hD : va_D A (w6 aM K (t1, M.2.1, M.2.2.1, M.2.2.2.1, M.2.2.2.2.1, M.2.2.2.2.2.1, M.2.2.2.2.2.2.1, M.2.2.2.2.2.2.2.1, M.2.2.2.2.2.2.2.2.1, M.2.2.2.2.2.2.2.2.2.1, M.2.2.2.2.2.2.2.2.2.2.1, M.2.2.2.2.2.2.2.2.2.2.2.1, M.2.2.2.2.2.2.2.2.2.2.2.2.1, M.2.2.2.2.2.2.2.2.2.2.2.2.2.1, M.2.2.2.2.2.2.2.2.2.2.2.2.2.2.1, M.2.2.2.2.2.2.2.2.2.2.2.2.2.2.2.1, M.2.2.2.2.2.2.2.2.2.2.2.2.2.2.2.2.1, M.2.2.2.2.2.2.2.2.2.2.2.2.2.2.2.2.2.1, M.2.2.2.2.2.2.2.2.2.2.2.2.2.2.2.2.2.2.1, M.2.2.2.2.2.2.2.2.2.2.2.2.2.2.2.2.2.2.2.1, M.2.2.2.2.2.2.2.2.2.2.2.2.2.2.2.2.2.2.2.2)) := hD
  refine lv_aload_n hx hb dX6_flip_17 rfl (lv_at hl 0 rfl) ?_
  refine va_get (D := D) (ci := 6) (v := .int t1) (C := RX6) (T := TX6) (N := 21) hx hb hts xu_X6 hown hK hP 0 rfl rfl 0 (by decide) (hts _ xw_507) (fun _ h9 => h9) rfl dX6_flip_18 ?_
  refine lv_if_ne (tgt := 44) hx hb dX6_flip_21 (by decide) (fun c9 => ?_) (fun c9 => ?_)
  · replace h := xi_f c9 h
    obtain rfl := Option.some.inj h
    exact xe_v C hP hD hS dX6_flip_44
  · replace h := xi_t c9 h
    refine lv_aload_n hx hb dX6_flip_24 rfl (lv_at hl 0 rfl) ?_
    refine va_get (D := D) (ci := 6) (v := .ref (aM 1)) (C := RX6) (T := TX6) (N := 21) hx hb hts xu_X6 hown hK hP 0 rfl rfl 2 (by decide) (hts _ xw_509) (fun _ h9 => h9) rfl dX6_flip_25 ?_
    refine lv_iload_n hx hb dX6_flip_28 rfl (lv_at hl 1 rfl) ?_
    refine lv_aload_n hx hb dX6_flip_29 rfl (lv_at hl 0 rfl) ?_
    refine va_get (D := D) (ci := 6) (v := .ref (aM 1)) (C := RX6) (T := TX6) (N := 21) hx hb hts xu_X6 hown hK hP 0 rfl rfl 2 (by decide) (hts _ xw_509) (fun _ h9 => h9) rfl dX6_flip_30 ?_
    refine lv_iload_n hx hb dX6_flip_33 rfl (lv_at hl 1 rfl) ?_
    obtain ⟨hi9, h⟩ := xi_g h
    refine va_zald hx hb hK hP 1 1 rfl rfl hi9 dX6_flip_34 ?_
    refine lv_if_ne (tgt := 42) hx hb dX6_flip_35 (by decide) (fun c9 => ?_) (fun c9 => ?_)
    · replace h := xi_f c9 h
      refine lv_iconst (v := (0 : Int32)) hx hb dX6_flip_42 (by decide) ?_
      exact kX6_flip_43 C _ _ _ _ h _ _ _ hP hD hS (lv_sub hl [] rfl)
    · replace h := xi_t c9 h
      refine lv_iconst (v := (1 : Int32)) hx hb dX6_flip_38 (by decide) ?_
      refine lv_goto (tgt := 43) hx hb dX6_flip_39 (by decide) ?_
      exact kX6_flip_43 C _ _ _ _ h _ _ _ hP hD hS (lv_sub hl [] rfl)
set_option maxHeartbeats 4000000 in
set_option maxRecDepth 100000 in
theorem mX6_flip (l : Launch) (D : va_G) (K : Nat → ClassId) (aM : Nat → Nat) (sz : Nat) (M : S6) (p1 : Int32) (r : Unit × (S6)) (h : fX6_flip M p1 = some r) : xMet l yX6_flip cX6_flip 2 none 1 21 D K [.ref (aM 0), .int p1] sz (w6 aM K M) (oX6_flip aM K r) := by
  refine xm_of _ (by decide +kernel) (Nat.le_of_ble_eq_true rfl) (fun p e s m args below meth c A C hP hD ls hl => ?_)
  have hl : lv_has ls 2 [(0, .ref (aM 0)), (1, .int p1)] := hl
  have hS : va_S A s.heap s.heap [] := va_S.rf
  obtain ⟨hx, hb, hr, hml, hown, hK, hts, hA, hG, hlk, hte, hnm⟩ := id C
  replace h : xbnd0 (fX6_noBit M p1) (fun v_1 s_2 => (if v_1 = 0 then fX6_flip_14 s_2 p1 (0 : Int32) else fX6_flip_14 s_2 p1 (1 : Int32))) = some r := h
  refine lv_aload_n hx hb dX6_flip_0 rfl (lv_at hl 0 rfl) ?_
  refine lv_aload_n hx hb dX6_flip_1 rfl (lv_at hl 0 rfl) ?_
  refine lv_iload_n hx hb dX6_flip_2 rfl (lv_at hl 1 rfl) ?_
  obtain ⟨v_1, s_2, hc9, h⟩ := xi_d h
  refine xc_V (As := [.int p1]) (ws' := w6 aM K s_2) C (mX6_noBit l D K aM _ _ _ _ hc9) xgi_X6_55 xd_X6_noBit ⟨Nat.le_of_ble_eq_true rfl, Nat.le_of_ble_eq_true rfl⟩ ⟨Nat.zero_le _, Nat.zero_le _⟩ hl rfl (Nat.le_of_ble_eq_true rfl) dX6_flip_3 hP hD hS 0 6 rfl rfl rfl [0, 1, 2, 3, 4, 5, 6, 7, 8, 9, 10, 11] rfl rfl [(0, w6 aM K s_2)] rfl rfl rfl (List.forall_mem_cons.mpr ⟨Nat.le_of_ble_eq_true rfl, (fun _ h => absurd h List.not_mem_nil)⟩) (fun H locs hP hD hS => ?_)
  refine W.eq (g2 := F0 m 6 ls [.int v_1, .ref (aM 0)]) rfl ?_
  refine lv_if_eq (tgt := 13) hx hb dX6_flip_6 (by decide) (fun c9 => ?_) (fun c9 => ?_)
  · replace h := xi_t c9 h
    refine lv_iconst (v := (0 : Int32)) hx hb dX6_flip_13 (by decide) ?_
    exact kX6_flip_14 C _ _ _ _ h _ _ _ hP hD hS (lv_sub hl [0, 1] rfl)
  · replace h := xi_f c9 h
    refine lv_iconst (v := (1 : Int32)) hx hb dX6_flip_9 (by decide) ?_
    refine lv_goto (tgt := 14) hx hb dX6_flip_10 (by decide) ?_
    exact kX6_flip_14 C _ _ _ _ h _ _ _ hP hD hS (lv_sub hl [0, 1] rfl)
abbrev oX6_cut (aM : Nat → Nat) (K : Nat → ClassId) (q : Int32 × (S6)) : xO := .inr ((some (.int q.1)), w6 aM K q.2)
def fX6_cut_18 (M : S6) (x1 : Int32) (t1 : Int32) : Option (Int32 × (S6)) := (if t1 = 0 then some ((M.2.1 - x1), (t1, x1, M.2.2.1, M.2.2.2.1, M.2.2.2.2.1, M.2.2.2.2.2.1, M.2.2.2.2.2.2.1, M.2.2.2.2.2.2.2.1, M.2.2.2.2.2.2.2.2.1, M.2.2.2.2.2.2.2.2.2.1, M.2.2.2.2.2.2.2.2.2.2.1, M.2.2.2.2.2.2.2.2.2.2.2.1, M.2.2.2.2.2.2.2.2.2.2.2.2.1, M.2.2.2.2.2.2.2.2.2.2.2.2.2.1, M.2.2.2.2.2.2.2.2.2.2.2.2.2.2.1, M.2.2.2.2.2.2.2.2.2.2.2.2.2.2.2.1, M.2.2.2.2.2.2.2.2.2.2.2.2.2.2.2.2.1, M.2.2.2.2.2.2.2.2.2.2.2.2.2.2.2.2.2.1, M.2.2.2.2.2.2.2.2.2.2.2.2.2.2.2.2.2.2.1, M.2.2.2.2.2.2.2.2.2.2.2.2.2.2.2.2.2.2.2.1, M.2.2.2.2.2.2.2.2.2.2.2.2.2.2.2.2.2.2.2.2)) else some ((0 : Int32), (t1, M.2.1, M.2.2.1, M.2.2.2.1, M.2.2.2.2.1, M.2.2.2.2.2.1, M.2.2.2.2.2.2.1, M.2.2.2.2.2.2.2.1, M.2.2.2.2.2.2.2.2.1, M.2.2.2.2.2.2.2.2.2.1, M.2.2.2.2.2.2.2.2.2.2.1, M.2.2.2.2.2.2.2.2.2.2.2.1, M.2.2.2.2.2.2.2.2.2.2.2.2.1, M.2.2.2.2.2.2.2.2.2.2.2.2.2.1, M.2.2.2.2.2.2.2.2.2.2.2.2.2.2.1, M.2.2.2.2.2.2.2.2.2.2.2.2.2.2.2.1, M.2.2.2.2.2.2.2.2.2.2.2.2.2.2.2.2.1, M.2.2.2.2.2.2.2.2.2.2.2.2.2.2.2.2.2.1, M.2.2.2.2.2.2.2.2.2.2.2.2.2.2.2.2.2.2.1, M.2.2.2.2.2.2.2.2.2.2.2.2.2.2.2.2.2.2.2.1, M.2.2.2.2.2.2.2.2.2.2.2.2.2.2.2.2.2.2.2.2)))
def fX6_cut (M : S6) (p1 : Int32) : Option (Int32 × (S6)) := (if p1 < 0 then fX6_cut_18 M p1 (1 : Int32) else (if p1 ≤ M.2.1 then fX6_cut_18 M p1 (0 : Int32) else fX6_cut_18 M p1 (1 : Int32)))
set_option maxHeartbeats 4000000 in
set_option maxRecDepth 100000 in
theorem kX6_cut_18 {p : Program} {l : Launch} {e : Env} {s : State} {m : MethodId} {args : Array Value} {below : List Frame} {meth : Method} {c : Code} {D : va_G} {K : Nat → ClassId} {A : Nat → Prop} {aM : Nat → Nat} (C : xC p s m args meth c cX6_cut 3 (some .int) yX6_cut D K A []) : ∀ (M : S6) (x1 : Int32) (t1 : Int32) (r : Int32 × (S6)), fX6_cut_18  M x1 t1 = some r → ∀ (H : Heap) (locs : List Loc) (ls : Array Slot), va_P D vwCl (w6 aM K M) H → va_D A (w6 aM K M) → va_S A s.heap H locs → lv_has ls 3 [(0, .ref (aM 0)), (1, .int x1)] → W p l e (xR 0 0 (oX6_cut aM K r)) s m args below meth c H locs 0 0 (xQ below args s D K A (oX6_cut aM K r)) (F0 m 18 ls [.int t1, .ref (aM 0)]) := by
  obtain ⟨hx, hb, hr, hml, hown, hK, hts, hA, hG, hlk, hte, hnm⟩ := id C
  intro M x1 t1 r h H locs ls hP hD hS hl
  replace h : (if t1 = 0 then some ((M.2.1 - x1), (t1, x1, M.2.2.1, M.2.2.2.1, M.2.2.2.2.1, M.2.2.2.2.2.1, M.2.2.2.2.2.2.1, M.2.2.2.2.2.2.2.1, M.2.2.2.2.2.2.2.2.1, M.2.2.2.2.2.2.2.2.2.1, M.2.2.2.2.2.2.2.2.2.2.1, M.2.2.2.2.2.2.2.2.2.2.2.1, M.2.2.2.2.2.2.2.2.2.2.2.2.1, M.2.2.2.2.2.2.2.2.2.2.2.2.2.1, M.2.2.2.2.2.2.2.2.2.2.2.2.2.2.1, M.2.2.2.2.2.2.2.2.2.2.2.2.2.2.2.1, M.2.2.2.2.2.2.2.2.2.2.2.2.2.2.2.2.1, M.2.2.2.2.2.2.2.2.2.2.2.2.2.2.2.2.2.1, M.2.2.2.2.2.2.2.2.2.2.2.2.2.2.2.2.2.2.1, M.2.2.2.2.2.2.2.2.2.2.2.2.2.2.2.2.2.2.2.1, M.2.2.2.2.2.2.2.2.2.2.2.2.2.2.2.2.2.2.2.2)) else some ((0 : Int32), (t1, M.2.1, M.2.2.1, M.2.2.2.1, M.2.2.2.2.1, M.2.2.2.2.2.1, M.2.2.2.2.2.2.1, M.2.2.2.2.2.2.2.1, M.2.2.2.2.2.2.2.2.1, M.2.2.2.2.2.2.2.2.2.1, M.2.2.2.2.2.2.2.2.2.2.1, M.2.2.2.2.2.2.2.2.2.2.2.1, M.2.2.2.2.2.2.2.2.2.2.2.2.1, M.2.2.2.2.2.2.2.2.2.2.2.2.2.1, M.2.2.2.2.2.2.2.2.2.2.2.2.2.2.1, M.2.2.2.2.2.2.2.2.2.2.2.2.2.2.2.1, M.2.2.2.2.2.2.2.2.2.2.2.2.2.2.2.2.1, M.2.2.2.2.2.2.2.2.2.2.2.2.2.2.2.2.2.1, M.2.2.2.2.2.2.2.2.2.2.2.2.2.2.2.2.2.2.1, M.2.2.2.2.2.2.2.2.2.2.2.2.2.2.2.2.2.2.2.1, M.2.2.2.2.2.2.2.2.2.2.2.2.2.2.2.2.2.2.2.2))) = some r := h
  refine va_put (D := D) (ci := 6) (v := .int t1) (ty := .int) (C := RX6) (T := TX6) (N := 21) hx hb hts xu_X6 tyX6 tyX6_ok nmX6 hown hK hP hD hS 0 rfl rfl 0 (by decide) (hts _ xw_507) (fun _ h9 => h9) rfl (by decide +kernel) rfl rfl (Nat.le_of_ble_eq_true rfl) dX6_cut_18 (fun H locs hP hD hS => ?_)
  have hP : va_P D vwCl (w6 aM K (t1, M.2.1, M.2.2.1, M.2.2.2.1, M.2.2.2.2.1, M.2.2.2.2.2.1, M.2.2.2.2.2.2.1, M.2.2.2.2.2.2.2.1, M.2.2.2.2.2.2.2.2.1, M.2.2.2.2.2.2.2.2.2.1, M.2.2.2.2.2.2.2.2.2.2.1, M.2.2.2.2.2.2.2.2.2.2.2.1, M.2.2.2.2.2.2.2.2.2.2.2.2.1, M.2.2.2.2.2.2.2.2.2.2.2.2.2.1, M.2.2.2.2.2.2.2.2.2.2.2.2.2.2.1, M.2.2.2.2.2.2.2.2.2.2.2.2.2.2.2.1, M.2.2.2.2.2.2.2.2.2.2.2.2.2.2.2.2.1, M.2.2.2.2.2.2.2.2.2.2.2.2.2.2.2.2.2.1, M.2.2.2.2.2.2.2.2.2.2.2.2.2.2.2.2.2.2.1, M.2.2.2.2.2.2.2.2.2.2.2.2.2.2.2.2.2.2.2.1, M.2.2.2.2.2.2.2.2.2.2.2.2.2.2.2.2.2.2.2.2)) H := hP
  have hD : va_D A (w6 aM K (t1, M.2.1, M.2.2.1, M.2.2.2.1, M.2.2.2.2.1, M.2.2.2.2.2.1, M.2.2.2.2.2.2.1, M.2.2.2.2.2.2.2.1, M.2.2.2.2.2.2.2.2.1, M.2.2.2.2.2.2.2.2.2.1, M.2.2.2.2.2.2.2.2.2.2.1, M.2.2.2.2.2.2.2.2.2.2.2.1, M.2.2.2.2.2.2.2.2.2.2.2.2.1, M.2.2.2.2.2.2.2.2.2.2.2.2.2.1, M.2.2.2.2.2.2.2.2.2.2.2.2.2.2.1, M.2.2.2.2.2.2.2.2.2.2.2.2.2.2.2.1, M.2.2.2.2.2.2.2.2.2.2.2.2.2.2.2.2.1, M.2.2.2.2.2.2.2.2.2.2.2.2.2.2.2.2.2.1, M.2.2.2.2.2.2.2.2.2.2.2.2.2.2.2.2.2.2.1, M.2.2.2.2.2.2.2.2.2.2.2.2.2.2.2.2.2.2.2.1, M.2.2.2.2.2.2.2.2.2.2.2.2.2.2.2.2.2.2.2.2)) := hD
  refine lv_aload_n hx hb dX6_cut_21 rfl (lv_at hl 0 rfl) ?_
  refine va_get (D := D) (ci := 6) (v := .int t1) (C := RX6) (T := TX6) (N := 21) hx hb hts xu_X6 hown hK hP 0 rfl rfl 0 (by decide) (hts _ xw_507) (fun _ h9 => h9) rfl dX6_cut_22 ?_
  refine lv_if_eq (tgt := 30) hx hb dX6_cut_25 (by decide) (fun c9 => ?_) (fun c9 => ?_)
  · replace h := xi_t c9 h
    refine lv_aload_n hx hb dX6_cut_30 rfl (lv_at hl 0 rfl) ?_
    refine va_get (D := D) (ci := 6) (v := .int M.2.1) (C := RX6) (T := TX6) (N := 21) hx hb hts xu_X6 hown hK hP 0 rfl rfl 1 (by decide) (hts _ xw_508) (fun _ h9 => h9) rfl dX6_cut_31 ?_
    refine lv_iload_n hx hb dX6_cut_34 rfl (lv_at hl 1 rfl) ?_
    refine lv_isub hx hb dX6_cut_35 ?_
    refine lv_istore_n (lv' := [(2, .int (M.2.1 - x1)), (0, .ref (aM 0)), (1, .int x1)]) hx hb dX6_cut_36 rfl hl (by decide) rfl (fun ls hl => ?_)
    refine lv_aload_n hx hb dX6_cut_37 rfl (lv_at hl 1 rfl) ?_
    refine lv_iload_n hx hb dX6_cut_38 rfl (lv_at hl 2 rfl) ?_
    refine va_put (D := D) (ci := 6) (v := .int x1) (ty := .int) (C := RX6) (T := TX6) (N := 21) hx hb hts xu_X6 tyX6 tyX6_ok nmX6 hown hK hP hD hS 0 rfl rfl 1 (by decide) (hts _ xw_508) (fun _ h9 => h9) rfl (by decide +kernel) rfl rfl (Nat.le_of_ble_eq_true rfl) dX6_cut_39 (fun H locs hP hD hS => ?_)
    have hP : va_P D vwCl (w6 aM K (t1, x1, M.2.2.1, M.2.2.2.1, M.2.2.2.2.1, M.2.2.2.2.2.1, M.2.2.2.2.2.2.1, M.2.2.2.2.2.2.2.1, M.2.2.2.2.2.2.2.2.1, M.2.2.2.2.2.2.2.2.2.1, M.2.2.2.2.2.2.2.2.2.2.1, M.2.2.2.2.2.2.2.2.2.2.2.1, M.2.2.2.2.2.2.2.2.2.2.2.2.1, M.2.2.2.2.2.2.2.2.2.2.2.2.2.1, M.2.2.2.2.2.2.2.2.2.2.2.2.2.2.1, M.2.2.2.2.2.2.2.2.2.2.2.2.2.2.2.1, M.2.2.2.2.2.2.2.2.2.2.2.2.2.2.2.2.1, M.2.2.2.2.2.2.2.2.2.2.2.2.2.2.2.2.2.1, M.2.2.2.2.2.2.2.2.2.2.2.2.2.2.2.2.2.2.1, M.2.2.2.2.2.2.2.2.2.2.2.2.2.2.2.2.2.2.2.1, M.2.2.2.2.2.2.2.2.2.2.2.2.2.2.2.2.2.2.2.2)) H := hP
    have hD : va_D A (w6 aM K (t1, x1, M.2.2.1, M.2.2.2.1, M.2.2.2.2.1, M.2.2.2.2.2.1, M.2.2.2.2.2.2.1, M.2.2.2.2.2.2.2.1, M.2.2.2.2.2.2.2.2.1, M.2.2.2.2.2.2.2.2.2.1, M.2.2.2.2.2.2.2.2.2.2.1, M.2.2.2.2.2.2.2.2.2.2.2.1, M.2.2.2.2.2.2.2.2.2.2.2.2.1, M.2.2.2.2.2.2.2.2.2.2.2.2.2.1, M.2.2.2.2.2.2.2.2.2.2.2.2.2.2.1, M.2.2.2.2.2.2.2.2.2.2.2.2.2.2.2.1, M.2.2.2.2.2.2.2.2.2.2.2.2.2.2.2.2.1, M.2.2.2.2.2.2.2.2.2.2.2.2.2.2.2.2.2.1, M.2.2.2.2.2.2.2.2.2.2.2.2.2.2.2.2.2.2.1, M.2.2.2.2.2.2.2.2.2.2.2.2.2.2.2.2.2.2.2.1, M.2.2.2.2.2.2.2.2.2.2.2.2.2.2.2.2.2.2.2.2)) := hD
    refine lv_iload_n hx hb dX6_cut_42 rfl (lv_at hl 0 rfl) ?_
    obtain rfl := Option.some.inj h
    exact xe_i C hP hD hS dX6_cut_43
  · replace h := xi_f c9 h
    refine lv_iconst (v := (0 : Int32)) hx hb dX6_cut_28 (by decide) ?_
    obtain rfl := Option.some.inj h
    exact xe_i C hP hD hS dX6_cut_29
set_option maxHeartbeats 4000000 in
set_option maxRecDepth 100000 in
theorem mX6_cut (l : Launch) (D : va_G) (K : Nat → ClassId) (aM : Nat → Nat) (sz : Nat) (M : S6) (p1 : Int32) (r : Int32 × (S6)) (h : fX6_cut M p1 = some r) : xMet l yX6_cut cX6_cut 3 (some .int) 0 0 D K [.ref (aM 0), .int p1] sz (w6 aM K M) (oX6_cut aM K r) := by
  refine xm_of _ (by decide +kernel) (Nat.le_of_ble_eq_true rfl) (fun p e s m args below meth c A C hP hD ls hl => ?_)
  have hl : lv_has ls 3 [(0, .ref (aM 0)), (1, .int p1)] := hl
  have hS : va_S A s.heap s.heap [] := va_S.rf
  obtain ⟨hx, hb, hr, hml, hown, hK, hts, hA, hG, hlk, hte, hnm⟩ := id C
  replace h : (if p1 < 0 then fX6_cut_18 M p1 (1 : Int32) else (if p1 ≤ M.2.1 then fX6_cut_18 M p1 (0 : Int32) else fX6_cut_18 M p1 (1 : Int32))) = some r := h
  refine lv_aload_n hx hb dX6_cut_0 rfl (lv_at hl 0 rfl) ?_
  refine lv_iload_n hx hb dX6_cut_1 rfl (lv_at hl 1 rfl) ?_
  refine lv_if_lt (tgt := 13) hx hb dX6_cut_2 (by decide) (fun c9 => ?_) (fun c9 => ?_)
  · replace h := xi_t c9 h
    refine lv_iconst (v := (1 : Int32)) hx hb dX6_cut_13 (by decide) ?_
    refine lv_goto (tgt := 18) hx hb dX6_cut_14 (by decide) ?_
    exact kX6_cut_18 C _ _ _ _ h _ _ _ hP hD hS (lv_sub hl [0, 1] rfl)
  · replace h := xi_f c9 h
    refine lv_iload_n hx hb dX6_cut_5 rfl (lv_at hl 1 rfl) ?_
    refine lv_aload_n hx hb dX6_cut_6 rfl (lv_at hl 0 rfl) ?_
    refine va_get (D := D) (ci := 6) (v := .int M.2.1) (C := RX6) (T := TX6) (N := 21) hx hb hts xu_X6 hown hK hP 0 rfl rfl 1 (by decide) (hts _ xw_508) (fun _ h9 => h9) rfl dX6_cut_7 ?_
    refine lv_icmp_le (tgt := 17) hx hb dX6_cut_10 (by decide) (fun c9 => ?_) (fun c9 => ?_)
    · replace h := xi_t c9 h
      refine lv_iconst (v := (0 : Int32)) hx hb dX6_cut_17 (by decide) ?_
      exact kX6_cut_18 C _ _ _ _ h _ _ _ hP hD hS (lv_sub hl [0, 1] rfl)
    · replace h := xi_f c9 h
      refine lv_iconst (v := (1 : Int32)) hx hb dX6_cut_13 (by decide) ?_
      refine lv_goto (tgt := 18) hx hb dX6_cut_14 (by decide) ?_
      exact kX6_cut_18 C _ _ _ _ h _ _ _ hP hD hS (lv_sub hl [0, 1] rfl)
abbrev oX6_taken (aM : Nat → Nat) (K : Nat → ClassId) (q : Int32 × (S6)) : xO := .inr ((some (.int q.1)), w6 aM K q.2)
def fX6_taken (M : S6) : Option (Int32 × (S6)) := some (M.2.2.2.1, ((0 : Int32), M.2.1, M.2.2.1, M.2.2.2.1, M.2.2.2.2.1, M.2.2.2.2.2.1, M.2.2.2.2.2.2.1, M.2.2.2.2.2.2.2.1, M.2.2.2.2.2.2.2.2.1, M.2.2.2.2.2.2.2.2.2.1, M.2.2.2.2.2.2.2.2.2.2.1, M.2.2.2.2.2.2.2.2.2.2.2.1, M.2.2.2.2.2.2.2.2.2.2.2.2.1, M.2.2.2.2.2.2.2.2.2.2.2.2.2.1, M.2.2.2.2.2.2.2.2.2.2.2.2.2.2.1, M.2.2.2.2.2.2.2.2.2.2.2.2.2.2.2.1, M.2.2.2.2.2.2.2.2.2.2.2.2.2.2.2.2.1, M.2.2.2.2.2.2.2.2.2.2.2.2.2.2.2.2.2.1, M.2.2.2.2.2.2.2.2.2.2.2.2.2.2.2.2.2.2.1, M.2.2.2.2.2.2.2.2.2.2.2.2.2.2.2.2.2.2.2.1, M.2.2.2.2.2.2.2.2.2.2.2.2.2.2.2.2.2.2.2.2))
set_option maxHeartbeats 4000000 in
set_option maxRecDepth 100000 in
theorem mX6_taken (l : Launch) (D : va_G) (K : Nat → ClassId) (aM : Nat → Nat) (sz : Nat) (M : S6) (r : Int32 × (S6)) (h : fX6_taken M = some r) : xMet l yX6_taken cX6_taken 1 (some .int) 0 0 D K [.ref (aM 0)] sz (w6 aM K M) (oX6_taken aM K r) := by
  refine xm_of _ (by decide +kernel) (Nat.le_of_ble_eq_true rfl) (fun p e s m args below meth c A C hP hD ls hl => ?_)
  have hl : lv_has ls 1 [(0, .ref (aM 0))] := hl
  have hS : va_S A s.heap s.heap [] := va_S.rf
  obtain ⟨hx, hb, hr, hml, hown, hK, hts, hA, hG, hlk, hte, hnm⟩ := id C
  replace h : some (M.2.2.2.1, ((0 : Int32), M.2.1, M.2.2.1, M.2.2.2.1, M.2.2.2.2.1, M.2.2.2.2.2.1, M.2.2.2.2.2.2.1, M.2.2.2.2.2.2.2.1, M.2.2.2.2.2.2.2.2.1, M.2.2.2.2.2.2.2.2.2.1, M.2.2.2.2.2.2.2.2.2.2.1, M.2.2.2.2.2.2.2.2.2.2.2.1, M.2.2.2.2.2.2.2.2.2.2.2.2.1, M.2.2.2.2.2.2.2.2.2.2.2.2.2.1, M.2.2.2.2.2.2.2.2.2.2.2.2.2.2.1, M.2.2.2.2.2.2.2.2.2.2.2.2.2.2.2.1, M.2.2.2.2.2.2.2.2.2.2.2.2.2.2.2.2.1, M.2.2.2.2.2.2.2.2.2.2.2.2.2.2.2.2.2.1, M.2.2.2.2.2.2.2.2.2.2.2.2.2.2.2.2.2.2.1, M.2.2.2.2.2.2.2.2.2.2.2.2.2.2.2.2.2.2.2.1, M.2.2.2.2.2.2.2.2.2.2.2.2.2.2.2.2.2.2.2.2)) = some r := h
  refine lv_aload_n hx hb dX6_taken_0 rfl (lv_at hl 0 rfl) ?_
  refine lv_iconst (v := (0 : Int32)) hx hb dX6_taken_1 (by decide) ?_
  refine va_put (D := D) (ci := 6) (v := .int (0 : Int32)) (ty := .int) (C := RX6) (T := TX6) (N := 21) hx hb hts xu_X6 tyX6 tyX6_ok nmX6 hown hK hP hD hS 0 rfl rfl 0 (by decide) (hts _ xw_507) (fun _ h9 => h9) rfl (by decide +kernel) rfl rfl (Nat.le_of_ble_eq_true rfl) dX6_taken_2 (fun H locs hP hD hS => ?_)
  have hP : va_P D vwCl (w6 aM K ((0 : Int32), M.2.1, M.2.2.1, M.2.2.2.1, M.2.2.2.2.1, M.2.2.2.2.2.1, M.2.2.2.2.2.2.1, M.2.2.2.2.2.2.2.1, M.2.2.2.2.2.2.2.2.1, M.2.2.2.2.2.2.2.2.2.1, M.2.2.2.2.2.2.2.2.2.2.1, M.2.2.2.2.2.2.2.2.2.2.2.1, M.2.2.2.2.2.2.2.2.2.2.2.2.1, M.2.2.2.2.2.2.2.2.2.2.2.2.2.1, M.2.2.2.2.2.2.2.2.2.2.2.2.2.2.1, M.2.2.2.2.2.2.2.2.2.2.2.2.2.2.2.1, M.2.2.2.2.2.2.2.2.2.2.2.2.2.2.2.2.1, M.2.2.2.2.2.2.2.2.2.2.2.2.2.2.2.2.2.1, M.2.2.2.2.2.2.2.2.2.2.2.2.2.2.2.2.2.2.1, M.2.2.2.2.2.2.2.2.2.2.2.2.2.2.2.2.2.2.2.1, M.2.2.2.2.2.2.2.2.2.2.2.2.2.2.2.2.2.2.2.2)) H := hP
  have hD : va_D A (w6 aM K ((0 : Int32), M.2.1, M.2.2.1, M.2.2.2.1, M.2.2.2.2.1, M.2.2.2.2.2.1, M.2.2.2.2.2.2.1, M.2.2.2.2.2.2.2.1, M.2.2.2.2.2.2.2.2.1, M.2.2.2.2.2.2.2.2.2.1, M.2.2.2.2.2.2.2.2.2.2.1, M.2.2.2.2.2.2.2.2.2.2.2.1, M.2.2.2.2.2.2.2.2.2.2.2.2.1, M.2.2.2.2.2.2.2.2.2.2.2.2.2.1, M.2.2.2.2.2.2.2.2.2.2.2.2.2.2.1, M.2.2.2.2.2.2.2.2.2.2.2.2.2.2.2.1, M.2.2.2.2.2.2.2.2.2.2.2.2.2.2.2.2.1, M.2.2.2.2.2.2.2.2.2.2.2.2.2.2.2.2.2.1, M.2.2.2.2.2.2.2.2.2.2.2.2.2.2.2.2.2.2.1, M.2.2.2.2.2.2.2.2.2.2.2.2.2.2.2.2.2.2.2.1, M.2.2.2.2.2.2.2.2.2.2.2.2.2.2.2.2.2.2.2.2)) := hD
  refine lv_aload_n hx hb dX6_taken_5 rfl (lv_at hl 0 rfl) ?_
  refine va_get (D := D) (ci := 6) (v := .int M.2.2.2.1) (C := RX6) (T := TX6) (N := 21) hx hb hts xu_X6 hown hK hP 0 rfl rfl 3 (by decide) (hts _ xw_510) (fun _ h9 => h9) rfl dX6_taken_6 ?_
  obtain rfl := Option.some.inj h
  exact xe_i C hP hD hS dX6_taken_9
abbrev oX6_letter (aM : Nat → Nat) (K : Nat → ClassId) (q : Int32 × (S6)) : xO := .inr ((some (.int q.1)), w6 aM K q.2)
def fX6_letter_18 (M : S6) (x1 : Int32) (t1 : Int32) : Option (Int32 × (S6)) := (if t1 = 0 then (if x1 < 0 ∨ 400 ≤ (x1).toNatClampNeg then none else some ((M.2.2.2.2.2.2.1 (x1).toNatClampNeg), (t1, M.2.1, M.2.2.1, M.2.2.2.1, M.2.2.2.2.1, M.2.2.2.2.2.1, M.2.2.2.2.2.2.1, M.2.2.2.2.2.2.2.1, M.2.2.2.2.2.2.2.2.1, M.2.2.2.2.2.2.2.2.2.1, M.2.2.2.2.2.2.2.2.2.2.1, M.2.2.2.2.2.2.2.2.2.2.2.1, M.2.2.2.2.2.2.2.2.2.2.2.2.1, M.2.2.2.2.2.2.2.2.2.2.2.2.2.1, M.2.2.2.2.2.2.2.2.2.2.2.2.2.2.1, M.2.2.2.2.2.2.2.2.2.2.2.2.2.2.2.1, M.2.2.2.2.2.2.2.2.2.2.2.2.2.2.2.2.1, M.2.2.2.2.2.2.2.2.2.2.2.2.2.2.2.2.2.1, M.2.2.2.2.2.2.2.2.2.2.2.2.2.2.2.2.2.2.1, M.2.2.2.2.2.2.2.2.2.2.2.2.2.2.2.2.2.2.2.1, M.2.2.2.2.2.2.2.2.2.2.2.2.2.2.2.2.2.2.2.2))) else some ((0 : Int32), (t1, M.2.1, M.2.2.1, M.2.2.2.1, M.2.2.2.2.1, M.2.2.2.2.2.1, M.2.2.2.2.2.2.1, M.2.2.2.2.2.2.2.1, M.2.2.2.2.2.2.2.2.1, M.2.2.2.2.2.2.2.2.2.1, M.2.2.2.2.2.2.2.2.2.2.1, M.2.2.2.2.2.2.2.2.2.2.2.1, M.2.2.2.2.2.2.2.2.2.2.2.2.1, M.2.2.2.2.2.2.2.2.2.2.2.2.2.1, M.2.2.2.2.2.2.2.2.2.2.2.2.2.2.1, M.2.2.2.2.2.2.2.2.2.2.2.2.2.2.2.1, M.2.2.2.2.2.2.2.2.2.2.2.2.2.2.2.2.1, M.2.2.2.2.2.2.2.2.2.2.2.2.2.2.2.2.2.1, M.2.2.2.2.2.2.2.2.2.2.2.2.2.2.2.2.2.2.1, M.2.2.2.2.2.2.2.2.2.2.2.2.2.2.2.2.2.2.2.1, M.2.2.2.2.2.2.2.2.2.2.2.2.2.2.2.2.2.2.2.2)))
def fX6_letter (M : S6) (p1 : Int32) : Option (Int32 × (S6)) := (if p1 < 0 then fX6_letter_18 M p1 (1 : Int32) else (if p1 < M.2.2.2.2.2.1 then fX6_letter_18 M p1 (0 : Int32) else fX6_letter_18 M p1 (1 : Int32)))
set_option maxHeartbeats 4000000 in
set_option maxRecDepth 100000 in
theorem kX6_letter_18 {p : Program} {l : Launch} {e : Env} {s : State} {m : MethodId} {args : Array Value} {below : List Frame} {meth : Method} {c : Code} {D : va_G} {K : Nat → ClassId} {A : Nat → Prop} {aM : Nat → Nat} (C : xC p s m args meth c cX6_letter 2 (some .int) yX6_letter D K A []) : ∀ (M : S6) (x1 : Int32) (t1 : Int32) (r : Int32 × (S6)), fX6_letter_18  M x1 t1 = some r → ∀ (H : Heap) (locs : List Loc) (ls : Array Slot), va_P D vwCl (w6 aM K M) H → va_D A (w6 aM K M) → va_S A s.heap H locs → lv_has ls 2 [(0, .ref (aM 0)), (1, .int x1)] → W p l e (xR 0 0 (oX6_letter aM K r)) s m args below meth c H locs 0 0 (xQ below args s D K A (oX6_letter aM K r)) (F0 m 18 ls [.int t1, .ref (aM 0)]) := by
  obtain ⟨hx, hb, hr, hml, hown, hK, hts, hA, hG, hlk, hte, hnm⟩ := id C
  intro M x1 t1 r h H locs ls hP hD hS hl
  replace h : (if t1 = 0 then (if x1 < 0 ∨ 400 ≤ (x1).toNatClampNeg then none else some ((M.2.2.2.2.2.2.1 (x1).toNatClampNeg), (t1, M.2.1, M.2.2.1, M.2.2.2.1, M.2.2.2.2.1, M.2.2.2.2.2.1, M.2.2.2.2.2.2.1, M.2.2.2.2.2.2.2.1, M.2.2.2.2.2.2.2.2.1, M.2.2.2.2.2.2.2.2.2.1, M.2.2.2.2.2.2.2.2.2.2.1, M.2.2.2.2.2.2.2.2.2.2.2.1, M.2.2.2.2.2.2.2.2.2.2.2.2.1, M.2.2.2.2.2.2.2.2.2.2.2.2.2.1, M.2.2.2.2.2.2.2.2.2.2.2.2.2.2.1, M.2.2.2.2.2.2.2.2.2.2.2.2.2.2.2.1, M.2.2.2.2.2.2.2.2.2.2.2.2.2.2.2.2.1, M.2.2.2.2.2.2.2.2.2.2.2.2.2.2.2.2.2.1, M.2.2.2.2.2.2.2.2.2.2.2.2.2.2.2.2.2.2.1, M.2.2.2.2.2.2.2.2.2.2.2.2.2.2.2.2.2.2.2.1, M.2.2.2.2.2.2.2.2.2.2.2.2.2.2.2.2.2.2.2.2))) else some ((0 : Int32), (t1, M.2.1, M.2.2.1, M.2.2.2.1, M.2.2.2.2.1, M.2.2.2.2.2.1, M.2.2.2.2.2.2.1, M.2.2.2.2.2.2.2.1, M.2.2.2.2.2.2.2.2.1, M.2.2.2.2.2.2.2.2.2.1, M.2.2.2.2.2.2.2.2.2.2.1, M.2.2.2.2.2.2.2.2.2.2.2.1, M.2.2.2.2.2.2.2.2.2.2.2.2.1, M.2.2.2.2.2.2.2.2.2.2.2.2.2.1, M.2.2.2.2.2.2.2.2.2.2.2.2.2.2.1, M.2.2.2.2.2.2.2.2.2.2.2.2.2.2.2.1, M.2.2.2.2.2.2.2.2.2.2.2.2.2.2.2.2.1, M.2.2.2.2.2.2.2.2.2.2.2.2.2.2.2.2.2.1, M.2.2.2.2.2.2.2.2.2.2.2.2.2.2.2.2.2.2.1, M.2.2.2.2.2.2.2.2.2.2.2.2.2.2.2.2.2.2.2.1, M.2.2.2.2.2.2.2.2.2.2.2.2.2.2.2.2.2.2.2.2))) = some r := h
  refine va_put (D := D) (ci := 6) (v := .int t1) (ty := .int) (C := RX6) (T := TX6) (N := 21) hx hb hts xu_X6 tyX6 tyX6_ok nmX6 hown hK hP hD hS 0 rfl rfl 0 (by decide) (hts _ xw_507) (fun _ h9 => h9) rfl (by decide +kernel) rfl rfl (Nat.le_of_ble_eq_true rfl) dX6_letter_18 (fun H locs hP hD hS => ?_)
  have hP : va_P D vwCl (w6 aM K (t1, M.2.1, M.2.2.1, M.2.2.2.1, M.2.2.2.2.1, M.2.2.2.2.2.1, M.2.2.2.2.2.2.1, M.2.2.2.2.2.2.2.1, M.2.2.2.2.2.2.2.2.1, M.2.2.2.2.2.2.2.2.2.1, M.2.2.2.2.2.2.2.2.2.2.1, M.2.2.2.2.2.2.2.2.2.2.2.1, M.2.2.2.2.2.2.2.2.2.2.2.2.1, M.2.2.2.2.2.2.2.2.2.2.2.2.2.1, M.2.2.2.2.2.2.2.2.2.2.2.2.2.2.1, M.2.2.2.2.2.2.2.2.2.2.2.2.2.2.2.1, M.2.2.2.2.2.2.2.2.2.2.2.2.2.2.2.2.1, M.2.2.2.2.2.2.2.2.2.2.2.2.2.2.2.2.2.1, M.2.2.2.2.2.2.2.2.2.2.2.2.2.2.2.2.2.2.1, M.2.2.2.2.2.2.2.2.2.2.2.2.2.2.2.2.2.2.2.1, M.2.2.2.2.2.2.2.2.2.2.2.2.2.2.2.2.2.2.2.2)) H := hP
  have hD : va_D A (w6 aM K (t1, M.2.1, M.2.2.1, M.2.2.2.1, M.2.2.2.2.1, M.2.2.2.2.2.1, M.2.2.2.2.2.2.1, M.2.2.2.2.2.2.2.1, M.2.2.2.2.2.2.2.2.1, M.2.2.2.2.2.2.2.2.2.1, M.2.2.2.2.2.2.2.2.2.2.1, M.2.2.2.2.2.2.2.2.2.2.2.1, M.2.2.2.2.2.2.2.2.2.2.2.2.1, M.2.2.2.2.2.2.2.2.2.2.2.2.2.1, M.2.2.2.2.2.2.2.2.2.2.2.2.2.2.1, M.2.2.2.2.2.2.2.2.2.2.2.2.2.2.2.1, M.2.2.2.2.2.2.2.2.2.2.2.2.2.2.2.2.1, M.2.2.2.2.2.2.2.2.2.2.2.2.2.2.2.2.2.1, M.2.2.2.2.2.2.2.2.2.2.2.2.2.2.2.2.2.2.1, M.2.2.2.2.2.2.2.2.2.2.2.2.2.2.2.2.2.2.2.1, M.2.2.2.2.2.2.2.2.2.2.2.2.2.2.2.2.2.2.2.2)) := hD
  refine lv_aload_n hx hb dX6_letter_21 rfl (lv_at hl 0 rfl) ?_
  refine va_get (D := D) (ci := 6) (v := .int t1) (C := RX6) (T := TX6) (N := 21) hx hb hts xu_X6 hown hK hP 0 rfl rfl 0 (by decide) (hts _ xw_507) (fun _ h9 => h9) rfl dX6_letter_22 ?_
  refine lv_if_ne (tgt := 37) hx hb dX6_letter_25 (by decide) (fun c9 => ?_) (fun c9 => ?_)
  · replace h := xi_f c9 h
    refine lv_iconst (v := (0 : Int32)) hx hb dX6_letter_37 (by decide) ?_
    obtain rfl := Option.some.inj h
    exact xe_i C hP hD hS dX6_letter_38
  · replace h := xi_t c9 h
    refine lv_aload_n hx hb dX6_letter_28 rfl (lv_at hl 0 rfl) ?_
    refine va_get (D := D) (ci := 6) (v := .ref (aM 2)) (C := RX6) (T := TX6) (N := 21) hx hb hts xu_X6 hown hK hP 0 rfl rfl 6 (by decide) (hts _ xw_513) (fun _ h9 => h9) rfl dX6_letter_29 ?_
    refine lv_iload_n hx hb dX6_letter_32 rfl (lv_at hl 1 rfl) ?_
    obtain ⟨hi9, h⟩ := xi_g h
    refine va_iald hx hb hK hP 2 0 rfl rfl hi9 dX6_letter_33 ?_
    refine lv_goto (tgt := 38) hx hb dX6_letter_34 (by decide) ?_
    obtain rfl := Option.some.inj h
    exact xe_i C hP hD hS dX6_letter_38
set_option maxHeartbeats 4000000 in
set_option maxRecDepth 100000 in
theorem mX6_letter (l : Launch) (D : va_G) (K : Nat → ClassId) (aM : Nat → Nat) (sz : Nat) (M : S6) (p1 : Int32) (r : Int32 × (S6)) (h : fX6_letter M p1 = some r) : xMet l yX6_letter cX6_letter 2 (some .int) 0 0 D K [.ref (aM 0), .int p1] sz (w6 aM K M) (oX6_letter aM K r) := by
  refine xm_of _ (by decide +kernel) (Nat.le_of_ble_eq_true rfl) (fun p e s m args below meth c A C hP hD ls hl => ?_)
  have hl : lv_has ls 2 [(0, .ref (aM 0)), (1, .int p1)] := hl
  have hS : va_S A s.heap s.heap [] := va_S.rf
  obtain ⟨hx, hb, hr, hml, hown, hK, hts, hA, hG, hlk, hte, hnm⟩ := id C
  replace h : (if p1 < 0 then fX6_letter_18 M p1 (1 : Int32) else (if p1 < M.2.2.2.2.2.1 then fX6_letter_18 M p1 (0 : Int32) else fX6_letter_18 M p1 (1 : Int32))) = some r := h
  refine lv_aload_n hx hb dX6_letter_0 rfl (lv_at hl 0 rfl) ?_
  refine lv_iload_n hx hb dX6_letter_1 rfl (lv_at hl 1 rfl) ?_
  refine lv_if_lt (tgt := 13) hx hb dX6_letter_2 (by decide) (fun c9 => ?_) (fun c9 => ?_)
  · replace h := xi_t c9 h
    refine lv_iconst (v := (1 : Int32)) hx hb dX6_letter_13 (by decide) ?_
    refine lv_goto (tgt := 18) hx hb dX6_letter_14 (by decide) ?_
    exact kX6_letter_18 C _ _ _ _ h _ _ _ hP hD hS (lv_sub hl [0, 1] rfl)
  · replace h := xi_f c9 h
    refine lv_iload_n hx hb dX6_letter_5 rfl (lv_at hl 1 rfl) ?_
    refine lv_aload_n hx hb dX6_letter_6 rfl (lv_at hl 0 rfl) ?_
    refine va_get (D := D) (ci := 6) (v := .int M.2.2.2.2.2.1) (C := RX6) (T := TX6) (N := 21) hx hb hts xu_X6 hown hK hP 0 rfl rfl 5 (by decide) (hts _ xw_512) (fun _ h9 => h9) rfl dX6_letter_7 ?_
    refine lv_icmp_lt (tgt := 17) hx hb dX6_letter_10 (by decide) (fun c9 => ?_) (fun c9 => ?_)
    · replace h := xi_t c9 h
      refine lv_iconst (v := (0 : Int32)) hx hb dX6_letter_17 (by decide) ?_
      exact kX6_letter_18 C _ _ _ _ h _ _ _ hP hD hS (lv_sub hl [0, 1] rfl)
    · replace h := xi_f c9 h
      refine lv_iconst (v := (1 : Int32)) hx hb dX6_letter_13 (by decide) ?_
      refine lv_goto (tgt := 18) hx hb dX6_letter_14 (by decide) ?_
      exact kX6_letter_18 C _ _ _ _ h _ _ _ hP hD hS (lv_sub hl [0, 1] rfl)
abbrev oX6_count (aM : Nat → Nat) (K : Nat → ClassId) (q : Int32 × (S6)) : xO := .inr ((some (.int q.1)), w6 aM K q.2)
def fX6_count_16 (M : S6) (x1 : Int32) (t1 : Int32) : Option (Int32 × (S6)) := (if t1 = 0 then (if x1 < 0 ∨ 9 ≤ (x1).toNatClampNeg then none else some ((M.2.2.2.2.2.2.2.2.2.1 (x1).toNatClampNeg), (t1, M.2.1, M.2.2.1, M.2.2.2.1, M.2.2.2.2.1, M.2.2.2.2.2.1, M.2.2.2.2.2.2.1, M.2.2.2.2.2.2.2.1, M.2.2.2.2.2.2.2.2.1, M.2.2.2.2.2.2.2.2.2.1, M.2.2.2.2.2.2.2.2.2.2.1, M.2.2.2.2.2.2.2.2.2.2.2.1, M.2.2.2.2.2.2.2.2.2.2.2.2.1, M.2.2.2.2.2.2.2.2.2.2.2.2.2.1, M.2.2.2.2.2.2.2.2.2.2.2.2.2.2.1, M.2.2.2.2.2.2.2.2.2.2.2.2.2.2.2.1, M.2.2.2.2.2.2.2.2.2.2.2.2.2.2.2.2.1, M.2.2.2.2.2.2.2.2.2.2.2.2.2.2.2.2.2.1, M.2.2.2.2.2.2.2.2.2.2.2.2.2.2.2.2.2.2.1, M.2.2.2.2.2.2.2.2.2.2.2.2.2.2.2.2.2.2.2.1, M.2.2.2.2.2.2.2.2.2.2.2.2.2.2.2.2.2.2.2.2))) else some ((0 : Int32), (t1, M.2.1, M.2.2.1, M.2.2.2.1, M.2.2.2.2.1, M.2.2.2.2.2.1, M.2.2.2.2.2.2.1, M.2.2.2.2.2.2.2.1, M.2.2.2.2.2.2.2.2.1, M.2.2.2.2.2.2.2.2.2.1, M.2.2.2.2.2.2.2.2.2.2.1, M.2.2.2.2.2.2.2.2.2.2.2.1, M.2.2.2.2.2.2.2.2.2.2.2.2.1, M.2.2.2.2.2.2.2.2.2.2.2.2.2.1, M.2.2.2.2.2.2.2.2.2.2.2.2.2.2.1, M.2.2.2.2.2.2.2.2.2.2.2.2.2.2.2.1, M.2.2.2.2.2.2.2.2.2.2.2.2.2.2.2.2.1, M.2.2.2.2.2.2.2.2.2.2.2.2.2.2.2.2.2.1, M.2.2.2.2.2.2.2.2.2.2.2.2.2.2.2.2.2.2.1, M.2.2.2.2.2.2.2.2.2.2.2.2.2.2.2.2.2.2.2.1, M.2.2.2.2.2.2.2.2.2.2.2.2.2.2.2.2.2.2.2.2)))
def fX6_count (M : S6) (p1 : Int32) : Option (Int32 × (S6)) := (if p1 < 0 then fX6_count_16 M p1 (1 : Int32) else (if p1 ≤ (8 : Int32) then fX6_count_16 M p1 (0 : Int32) else fX6_count_16 M p1 (1 : Int32)))
set_option maxHeartbeats 4000000 in
set_option maxRecDepth 100000 in
theorem kX6_count_16 {p : Program} {l : Launch} {e : Env} {s : State} {m : MethodId} {args : Array Value} {below : List Frame} {meth : Method} {c : Code} {D : va_G} {K : Nat → ClassId} {A : Nat → Prop} {aM : Nat → Nat} (C : xC p s m args meth c cX6_count 2 (some .int) yX6_count D K A []) : ∀ (M : S6) (x1 : Int32) (t1 : Int32) (r : Int32 × (S6)), fX6_count_16  M x1 t1 = some r → ∀ (H : Heap) (locs : List Loc) (ls : Array Slot), va_P D vwCl (w6 aM K M) H → va_D A (w6 aM K M) → va_S A s.heap H locs → lv_has ls 2 [(0, .ref (aM 0)), (1, .int x1)] → W p l e (xR 0 0 (oX6_count aM K r)) s m args below meth c H locs 0 0 (xQ below args s D K A (oX6_count aM K r)) (F0 m 16 ls [.int t1, .ref (aM 0)]) := by
  obtain ⟨hx, hb, hr, hml, hown, hK, hts, hA, hG, hlk, hte, hnm⟩ := id C
  intro M x1 t1 r h H locs ls hP hD hS hl
  replace h : (if t1 = 0 then (if x1 < 0 ∨ 9 ≤ (x1).toNatClampNeg then none else some ((M.2.2.2.2.2.2.2.2.2.1 (x1).toNatClampNeg), (t1, M.2.1, M.2.2.1, M.2.2.2.1, M.2.2.2.2.1, M.2.2.2.2.2.1, M.2.2.2.2.2.2.1, M.2.2.2.2.2.2.2.1, M.2.2.2.2.2.2.2.2.1, M.2.2.2.2.2.2.2.2.2.1, M.2.2.2.2.2.2.2.2.2.2.1, M.2.2.2.2.2.2.2.2.2.2.2.1, M.2.2.2.2.2.2.2.2.2.2.2.2.1, M.2.2.2.2.2.2.2.2.2.2.2.2.2.1, M.2.2.2.2.2.2.2.2.2.2.2.2.2.2.1, M.2.2.2.2.2.2.2.2.2.2.2.2.2.2.2.1, M.2.2.2.2.2.2.2.2.2.2.2.2.2.2.2.2.1, M.2.2.2.2.2.2.2.2.2.2.2.2.2.2.2.2.2.1, M.2.2.2.2.2.2.2.2.2.2.2.2.2.2.2.2.2.2.1, M.2.2.2.2.2.2.2.2.2.2.2.2.2.2.2.2.2.2.2.1, M.2.2.2.2.2.2.2.2.2.2.2.2.2.2.2.2.2.2.2.2))) else some ((0 : Int32), (t1, M.2.1, M.2.2.1, M.2.2.2.1, M.2.2.2.2.1, M.2.2.2.2.2.1, M.2.2.2.2.2.2.1, M.2.2.2.2.2.2.2.1, M.2.2.2.2.2.2.2.2.1, M.2.2.2.2.2.2.2.2.2.1, M.2.2.2.2.2.2.2.2.2.2.1, M.2.2.2.2.2.2.2.2.2.2.2.1, M.2.2.2.2.2.2.2.2.2.2.2.2.1, M.2.2.2.2.2.2.2.2.2.2.2.2.2.1, M.2.2.2.2.2.2.2.2.2.2.2.2.2.2.1, M.2.2.2.2.2.2.2.2.2.2.2.2.2.2.2.1, M.2.2.2.2.2.2.2.2.2.2.2.2.2.2.2.2.1, M.2.2.2.2.2.2.2.2.2.2.2.2.2.2.2.2.2.1, M.2.2.2.2.2.2.2.2.2.2.2.2.2.2.2.2.2.2.1, M.2.2.2.2.2.2.2.2.2.2.2.2.2.2.2.2.2.2.2.1, M.2.2.2.2.2.2.2.2.2.2.2.2.2.2.2.2.2.2.2.2))) = some r := h
  refine va_put (D := D) (ci := 6) (v := .int t1) (ty := .int) (C := RX6) (T := TX6) (N := 21) hx hb hts xu_X6 tyX6 tyX6_ok nmX6 hown hK hP hD hS 0 rfl rfl 0 (by decide) (hts _ xw_507) (fun _ h9 => h9) rfl (by decide +kernel) rfl rfl (Nat.le_of_ble_eq_true rfl) dX6_count_16 (fun H locs hP hD hS => ?_)
  have hP : va_P D vwCl (w6 aM K (t1, M.2.1, M.2.2.1, M.2.2.2.1, M.2.2.2.2.1, M.2.2.2.2.2.1, M.2.2.2.2.2.2.1, M.2.2.2.2.2.2.2.1, M.2.2.2.2.2.2.2.2.1, M.2.2.2.2.2.2.2.2.2.1, M.2.2.2.2.2.2.2.2.2.2.1, M.2.2.2.2.2.2.2.2.2.2.2.1, M.2.2.2.2.2.2.2.2.2.2.2.2.1, M.2.2.2.2.2.2.2.2.2.2.2.2.2.1, M.2.2.2.2.2.2.2.2.2.2.2.2.2.2.1, M.2.2.2.2.2.2.2.2.2.2.2.2.2.2.2.1, M.2.2.2.2.2.2.2.2.2.2.2.2.2.2.2.2.1, M.2.2.2.2.2.2.2.2.2.2.2.2.2.2.2.2.2.1, M.2.2.2.2.2.2.2.2.2.2.2.2.2.2.2.2.2.2.1, M.2.2.2.2.2.2.2.2.2.2.2.2.2.2.2.2.2.2.2.1, M.2.2.2.2.2.2.2.2.2.2.2.2.2.2.2.2.2.2.2.2)) H := hP
  have hD : va_D A (w6 aM K (t1, M.2.1, M.2.2.1, M.2.2.2.1, M.2.2.2.2.1, M.2.2.2.2.2.1, M.2.2.2.2.2.2.1, M.2.2.2.2.2.2.2.1, M.2.2.2.2.2.2.2.2.1, M.2.2.2.2.2.2.2.2.2.1, M.2.2.2.2.2.2.2.2.2.2.1, M.2.2.2.2.2.2.2.2.2.2.2.1, M.2.2.2.2.2.2.2.2.2.2.2.2.1, M.2.2.2.2.2.2.2.2.2.2.2.2.2.1, M.2.2.2.2.2.2.2.2.2.2.2.2.2.2.1, M.2.2.2.2.2.2.2.2.2.2.2.2.2.2.2.1, M.2.2.2.2.2.2.2.2.2.2.2.2.2.2.2.2.1, M.2.2.2.2.2.2.2.2.2.2.2.2.2.2.2.2.2.1, M.2.2.2.2.2.2.2.2.2.2.2.2.2.2.2.2.2.2.1, M.2.2.2.2.2.2.2.2.2.2.2.2.2.2.2.2.2.2.2.1, M.2.2.2.2.2.2.2.2.2.2.2.2.2.2.2.2.2.2.2.2)) := hD
  refine lv_aload_n hx hb dX6_count_19 rfl (lv_at hl 0 rfl) ?_
  refine va_get (D := D) (ci := 6) (v := .int t1) (C := RX6) (T := TX6) (N := 21) hx hb hts xu_X6 hown hK hP 0 rfl rfl 0 (by decide) (hts _ xw_507) (fun _ h9 => h9) rfl dX6_count_20 ?_
  refine lv_if_ne (tgt := 35) hx hb dX6_count_23 (by decide) (fun c9 => ?_) (fun c9 => ?_)
  · replace h := xi_f c9 h
    refine lv_iconst (v := (0 : Int32)) hx hb dX6_count_35 (by decide) ?_
    obtain rfl := Option.some.inj h
    exact xe_i C hP hD hS dX6_count_36
  · replace h := xi_t c9 h
    refine lv_aload_n hx hb dX6_count_26 rfl (lv_at hl 0 rfl) ?_
    refine va_get (D := D) (ci := 6) (v := .ref (aM 4)) (C := RX6) (T := TX6) (N := 21) hx hb hts xu_X6 hown hK hP 0 rfl rfl 9 (by decide) (hts _ xw_516) (fun _ h9 => h9) rfl dX6_count_27 ?_
    refine lv_iload_n hx hb dX6_count_30 rfl (lv_at hl 1 rfl) ?_
    obtain ⟨hi9, h⟩ := xi_g h
    refine va_iald hx hb hK hP 4 0 rfl rfl hi9 dX6_count_31 ?_
    refine lv_goto (tgt := 36) hx hb dX6_count_32 (by decide) ?_
    obtain rfl := Option.some.inj h
    exact xe_i C hP hD hS dX6_count_36
set_option maxHeartbeats 4000000 in
set_option maxRecDepth 100000 in
theorem mX6_count (l : Launch) (D : va_G) (K : Nat → ClassId) (aM : Nat → Nat) (sz : Nat) (M : S6) (p1 : Int32) (r : Int32 × (S6)) (h : fX6_count M p1 = some r) : xMet l yX6_count cX6_count 2 (some .int) 0 0 D K [.ref (aM 0), .int p1] sz (w6 aM K M) (oX6_count aM K r) := by
  refine xm_of _ (by decide +kernel) (Nat.le_of_ble_eq_true rfl) (fun p e s m args below meth c A C hP hD ls hl => ?_)
  have hl : lv_has ls 2 [(0, .ref (aM 0)), (1, .int p1)] := hl
  have hS : va_S A s.heap s.heap [] := va_S.rf
  obtain ⟨hx, hb, hr, hml, hown, hK, hts, hA, hG, hlk, hte, hnm⟩ := id C
  replace h : (if p1 < 0 then fX6_count_16 M p1 (1 : Int32) else (if p1 ≤ (8 : Int32) then fX6_count_16 M p1 (0 : Int32) else fX6_count_16 M p1 (1 : Int32))) = some r := h
  refine lv_aload_n hx hb dX6_count_0 rfl (lv_at hl 0 rfl) ?_
  refine lv_iload_n hx hb dX6_count_1 rfl (lv_at hl 1 rfl) ?_
  refine lv_if_lt (tgt := 11) hx hb dX6_count_2 (by decide) (fun c9 => ?_) (fun c9 => ?_)
  · replace h := xi_t c9 h
    refine lv_iconst (v := (1 : Int32)) hx hb dX6_count_11 (by decide) ?_
    refine lv_goto (tgt := 16) hx hb dX6_count_12 (by decide) ?_
    exact kX6_count_16 C _ _ _ _ h _ _ _ hP hD hS (lv_sub hl [0, 1] rfl)
  · replace h := xi_f c9 h
    refine lv_iload_n hx hb dX6_count_5 rfl (lv_at hl 1 rfl) ?_
    refine lv_bipush (v := (8 : Int32)) hx hb dX6_count_6 (by decide) ?_
    refine lv_icmp_le (tgt := 15) hx hb dX6_count_8 (by decide) (fun c9 => ?_) (fun c9 => ?_)
    · replace h := xi_t c9 h
      refine lv_iconst (v := (0 : Int32)) hx hb dX6_count_15 (by decide) ?_
      exact kX6_count_16 C _ _ _ _ h _ _ _ hP hD hS (lv_sub hl [0, 1] rfl)
    · replace h := xi_f c9 h
      refine lv_iconst (v := (1 : Int32)) hx hb dX6_count_11 (by decide) ?_
      refine lv_goto (tgt := 16) hx hb dX6_count_12 (by decide) ?_
      exact kX6_count_16 C _ _ _ _ h _ _ _ hP hD hS (lv_sub hl [0, 1] rfl)
