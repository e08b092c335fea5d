abbrev oX4_append (aS : Nat → Nat) (K : Nat → ClassId) (q : Unit × (S4)) : xO := .inr (none, w4 aS K q.2)
def fX4_append_31 (rec2 : S4 → Int32 → Int32 → Int32 → Option (Unit × (S4))) (S : S4) (x1 : Int32) (x2 : Int32) (x3 : Int32) (t1 : Int32) (t2 : Int32) : Option (Unit × (S4)) := (if t1 < 0 ∨ 2000 ≤ (t1).toNatClampNeg then none else rec2 ((upd S.1 (t1).toNatClampNeg (vp_nar .boolean t2)), S.2.1, S.2.2) x1 x2 (x3 + (1 : Int32)))
def fX4_append_2 : Nat → S4 → Int32 → Int32 → Int32 → Option (Unit × (S4))
  | 0 => fun _ _ _ _ => none
  | fu + 1 => fun S x1 x2 x3 => (if x2 ≤ x3 then some ((), (S.1, (S.2.1 + x2), S.2.2)) else (if ((x1 >>> (x3 &&& 31)) &&& (1 : Int32)) = (1 : Int32) then fX4_append_31 (fX4_append_2 fu) S x1 x2 x3 (S.2.1 + x3) (1 : Int32) else fX4_append_31 (fX4_append_2 fu) S x1 x2 x3 (S.2.1 + x3) (0 : Int32)))
def fX4_append (S : S4) (p1 : Int32) (p2 : Int32) : Option (Unit × (S4)) := fX4_append_2 xF S p1 p2 (0 : Int32)
set_option maxHeartbeats 4000000 in
set_option maxRecDepth 100000 in
theorem kX4_append_31 {p : Program} {l : Launch} {e : Env} {s : State} {m : MethodId} {args : Array Value} {below : List Frame} {meth : Method} {c : Code} {D : va_G} {K : Nat → ClassId} {A : Nat → Prop} {aS : Nat → Nat} (C : xC p s m args meth c cX4_append 4 none yX4_append D K A []) (rec2 : S4 → Int32 → Int32 → Int32 → Option (Unit × (S4))) (hrec2 : ∀ (S : S4) (x1 : Int32) (x2 : Int32) (x3 : Int32) (r : Unit × (S4)), rec2 S x1 x2 x3 = some r → ∀ (H : Heap) (locs : List Loc) (ls : Array Slot), va_P D vwCl (w4 aS K S) H → va_D A (w4 aS K S) → va_S A s.heap H locs → lv_has ls 4 [(0, .ref (aS 0)), (1, .int x1), (2, .int x2), (3, .int x3)] → W p l e (xR 0 0 (oX4_append aS K r)) s m args below meth c H locs 0 0 (xQ below args s D K A (oX4_append aS K r)) (F0 m 2 ls [])) : ∀ (S : S4) (x1 : Int32) (x2 : Int32) (x3 : Int32) (t1 : Int32) (t2 : Int32) (r : Unit × (S4)), fX4_append_31  rec2 S x1 x2 x3 t1 t2 = some r → ∀ (H : Heap) (locs : List Loc) (ls : Array Slot), va_P D vwCl (w4 aS K S) H → va_D A (w4 aS K S) → va_S A s.heap H locs → lv_has ls 4 [(0, .ref (aS 0)), (1, .int x1), (2, .int x2), (3, .int x3)] → W p l e (xR 0 0 (oX4_append aS K r)) s m args below meth c H locs 0 0 (xQ below args s D K A (oX4_append aS K r)) (F0 m 31 ls [.int t2, .int t1, .ref (aS 1)]) := by
  obtain ⟨hx, hb, hr, hml, hown, hK, hts, hA, hG, hlk, hte, hnm⟩ := id C
  intro S x1 x2 x3 t1 t2 r h H locs ls hP hD hS hl
  replace h : (if t1 < 0 ∨ 2000 ≤ (t1).toNatClampNeg then none else rec2 ((upd S.1 (t1).toNatClampNeg (vp_nar .boolean t2)), S.2.1, S.2.2) x1 x2 (x3 + (1 : Int32))) = some r := h
  obtain ⟨hi9, h⟩ := xi_g h
  refine va_zast hx hb hK hP hD hS 1 1 rfl rfl hi9 dX4_append_31 (fun H locs hP hD hS => ?_)
  have hP : va_P D vwCl (w4 aS K ((upd S.1 (t1).toNatClampNeg (vp_nar .boolean t2)), S.2.1, S.2.2)) H := hP
  have hD : va_D A (w4 aS K ((upd S.1 (t1).toNatClampNeg (vp_nar .boolean t2)), S.2.1, S.2.2)) := hD
  refine lv_iinc (v := (x3 + (1 : Int32))) (lv' := [(3, .int (x3 + (1 : Int32))), (0, .ref (aS 0)), (1, .int x1), (2, .int x2)]) hx hb dX4_append_32 hl (k := 3) rfl (by rfl) (by decide) rfl (fun ls hl => ?_)
  refine lv_goto (tgt := 2) hx hb dX4_append_35 (by decide) ?_
  exact hrec2 _ _ _ _ _ h _ _ _ hP hD hS (lv_sub hl [1, 2, 3, 0] rfl)
set_option maxHeartbeats 4000000 in
set_option maxRecDepth 100000 in
theorem kX4_append_2 {p : Program} {l : Launch} {e : Env} {s : State} {m : MethodId} {args : Array Value} {below : List Frame} {meth : Method} {c : Code} {D : va_G} {K : Nat → ClassId} {A : Nat → Prop} {aS : Nat → Nat} (C : xC p s m args meth c cX4_append 4 none yX4_append D K A []) : ∀ fu : Nat, ∀ (S : S4) (x1 : Int32) (x2 : Int32) (x3 : Int32) (r : Unit × (S4)), fX4_append_2 fu S x1 x2 x3 = some r → ∀ (H : Heap) (locs : List Loc) (ls : Array Slot), va_P D vwCl (w4 aS K S) H → va_D A (w4 aS K S) → va_S A s.heap H locs → lv_has ls 4 [(0, .ref (aS 0)), (1, .int x1), (2, .int x2), (3, .int x3)] → W p l e (xR 0 0 (oX4_append aS K r)) s m args below meth c H locs 0 0 (xQ below args s D K A (oX4_append aS K r)) (F0 m 2 ls []) := by
  obtain ⟨hx, hb, hr, hml, hown, hK, hts, hA, hG, hlk, hte, hnm⟩ := id C
  intro fu
  induction fu with
  | zero =>
    intro S x1 x2 x3 r h
    exact nomatch (show (none : Option (Unit × (S4))) = some r from h)
  | succ fu ih =>
    intro S x1 x2 x3 r h H locs ls hP hD hS hl
    replace h : (if x2 ≤ x3 then some ((), (S.1, (S.2.1 + x2), S.2.2)) else (if ((x1 >>> (x3 &&& 31)) &&& (1 : Int32)) = (1 : Int32) then fX4_append_31 (fX4_append_2 fu) S x1 x2 x3 (S.2.1 + x3) (1 : Int32) else fX4_append_31 (fX4_append_2 fu) S x1 x2 x3 (S.2.1 + x3) (0 : Int32))) = some r := h
    refine lv_iload_n hx hb dX4_append_2 rfl (lv_at hl 3 rfl) ?_
    refine lv_iload_n hx hb dX4_append_3 rfl (lv_at hl 2 rfl) ?_
    refine lv_icmp_ge (tgt := 38) hx hb dX4_append_4 (by decide) (fun c9 => ?_) (fun c9 => ?_)
    · replace h := xi_t c9 h
      refine lv_aload_n hx hb dX4_append_38 rfl (lv_at hl 0 rfl) ?_
      refine lv_dup hx hb dX4_append_39 rfl ?_
      refine va_get (D := D) (ci := 4) (v := .int S.2.1) (C := RX4) (T := TX4) (N := 3) hx hb hts xu_X4 hown hK hP 0 rfl rfl 1 (by decide) (hts _ xw_65) (fun _ h9 => h9) rfl dX4_append_40 ?_
      refine lv_iload_n hx hb dX4_append_43 rfl (lv_at hl 2 rfl) ?_
      refine lv_iadd hx hb dX4_append_44 ?_
      refine va_put (D := D) (ci := 4) (v := .int (S.2.1 + x2)) (ty := .int) (C := RX4) (T := TX4) (N := 3) hx hb hts xu_X4 tyX4 tyX4_ok nmX4 hown hK hP hD hS 0 rfl rfl 1 (by decide) (hts _ xw_65) (fun _ h9 => h9) rfl (by decide +kernel) rfl rfl (Nat.le_of_ble_eq_true rfl) dX4_append_45 (fun H locs hP hD hS => ?_)
      have hP : va_P D vwCl (w4 aS K (S.1, (S.2.1 + x2), S.2.2)) H := hP
      have hD : va_D A (w4 aS K (S.1, (S.2.1 + x2), S.2.2)) := hD
      obtain rfl := Option.some.inj h
      exact xe_v C hP hD hS dX4_append_48
    · replace h := xi_f c9 h
      refine lv_aload_n hx hb dX4_append_7 rfl (lv_at hl 0 rfl) ?_
      refine va_get (D := D) (ci := 4) (v := .ref (aS 1)) (C := RX4) (T := TX4) (N := 3) hx hb hts xu_X4 hown hK hP 0 rfl rfl 0 (by decide) (hts _ xw_63) (fun _ h9 => h9) rfl dX4_append_8 ?_
      refine lv_aload_n hx hb dX4_append_11 rfl (lv_at hl 0 rfl) ?_
      refine va_get (D := D) (ci := 4) (v := .int S.2.1) (C := RX4) (T := TX4) (N := 3) hx hb hts xu_X4 hown hK hP 0 rfl rfl 1 (by decide) (hts _ xw_65) (fun _ h9 => h9) rfl dX4_append_12 ?_
      refine lv_iload_n hx hb dX4_append_15 rfl (lv_at hl 3 rfl) ?_
      refine lv_iadd hx hb dX4_append_16 ?_
      refine lv_iload_n hx hb dX4_append_17 rfl (lv_at hl 1 rfl) ?_
      refine lv_iload_n hx hb dX4_append_18 rfl (lv_at hl 3 rfl) ?_
      refine lv_ishr hx hb dX4_append_19 ?_
      refine lv_iconst (v := (1 : Int32)) hx hb dX4_append_20 (by decide) ?_
      refine lv_iand hx hb dX4_append_21 ?_
      refine lv_iconst (v := (1 : Int32)) hx hb dX4_append_22 (by decide) ?_
      refine lv_icmp_ne (tgt := 30) hx hb dX4_append_23 (by decide) (fun c9 => ?_) (fun c9 => ?_)
      · replace h := xi_f c9 h
        refine lv_iconst (v := (0 : Int32)) hx hb dX4_append_30 (by decide) ?_
        exact kX4_append_31 C _ ih _ _ _ _ _ _ _ h _ _ _ hP hD hS (lv_sub hl [0, 1, 2, 3] rfl)
      · replace h := xi_t c9 h
        refine lv_iconst (v := (1 : Int32)) hx hb dX4_append_26 (by decide) ?_
        refine lv_goto (tgt := 31) hx hb dX4_append_27 (by decide) ?_
        exact kX4_append_31 C _ ih _ _ _ _ _ _ _ h _ _ _ hP hD hS (lv_sub hl [0, 1, 2, 3] rfl)
set_option maxHeartbeats 4000000 in
set_option maxRecDepth 100000 in
theorem mX4_append (l : Launch) (D : va_G) (K : Nat → ClassId) (aS : Nat → Nat) (sz : Nat) (S : S4) (p1 : Int32) (p2 : Int32) (r : Unit × (S4)) (h : fX4_append S p1 p2 = some r) : xMet l yX4_append cX4_append 4 none 0 0 D K [.ref (aS 0), .int p1, .int p2] sz (w4 aS K S) (oX4_append aS K r) := by
  refine xm_of _ (by decide +kernel) (Nat.le_of_ble_eq_true rfl) (fun p e s m args below meth c A C hP hD ls hl => ?_)
  have hl : lv_has ls 4 [(0, .ref (aS 0)), (1, .int p1), (2, .int p2)] := hl
  have hS : va_S A s.heap s.heap [] := va_S.rf
  obtain ⟨hx, hb, hr, hml, hown, hK, hts, hA, hG, hlk, hte, hnm⟩ := id C
  replace h : fX4_append_2 xF S p1 p2 (0 : Int32) = some r := h
  refine lv_iconst (v := (0 : Int32)) hx hb dX4_append_0 (by decide) ?_
  refine lv_istore_n (lv' := [(3, .int (0 : Int32)), (0, .ref (aS 0)), (1, .int p1), (2, .int p2)]) hx hb dX4_append_1 rfl hl (by decide) rfl (fun ls hl => ?_)
  exact kX4_append_2 C _ _ _ _ _ _ h _ _ _ hP hD hS (lv_sub hl [1, 2, 3, 0] rfl)
abbrev oX4_readNumber (aS : Nat → Nat) (K : Nat → ClassId) (r : (String × (S4)) ⊕ (Int32 × (S4))) : xO := match r with
  | .inl q => .inl (q.1, w4 aS K q.2)
  | .inr q => .inr ((some (.int q.1)), w4 aS K q.2)
def fX4_readNumber_27 : Nat → S4 → Int32 → Int32 → Int32 → Option ((String × (S4)) ⊕ (Int32 × (S4)))
  | 0 => fun _ _ _ _ => none
  | fu + 1 => fun S x1 x2 x3 => (if x1 ≤ x3 then some (.inr (x2, (S.1, S.2.1, (S.2.2 + x1)))) else (if (S.2.2 + x3) < 0 ∨ 2000 ≤ ((S.2.2 + x3)).toNatClampNeg then none else (if (S.1 ((S.2.2 + x3)).toNatClampNeg) = 0 then fX4_readNumber_27 fu S x1 x2 (x3 + (1 : Int32)) else fX4_readNumber_27 fu S x1 (x2 ||| ((1 : Int32) <<< (x3 &&& 31))) (x3 + (1 : Int32)))))
def fX4_readNumber (S : S4) (p1 : Int32) : Option ((String × (S4)) ⊕ (Int32 × (S4))) := (if p1 ≤ (S.2.1 - S.2.2) then fX4_readNumber_27 xF S p1 (0 : Int32) (0 : Int32) else some (.inl ("java/lang/IllegalArgumentException", S)))
set_option maxHeartbeats 4000000 in
set_option maxRecDepth 100000 in
theorem kX4_readNumber_27 {p : Program} {l : Launch} {e : Env} {s : State} {m : MethodId} {args : Array Value} {below : List Frame} {meth : Method} {c : Code} {D : va_G} {K : Nat → ClassId} {A : Nat → Prop} {aS : Nat → Nat} (C : xC p s m args meth c cX4_readNumber 4 (some .int) yX4_readNumber D K A []) (hlt : l.stackTraces = false) : ∀ fu : Nat, ∀ (S : S4) (x1 : Int32) (x2 : Int32) (x3 : Int32) (r : (String × (S4)) ⊕ (Int32 × (S4))), fX4_readNumber_27 fu S x1 x2 x3 = some r → ∀ (H : Heap) (locs : List Loc) (ls : Array Slot), va_P D vwCl (w4 aS K S) H → va_D A (w4 aS K S) → va_S A s.heap H locs → lv_has ls 4 [(0, .ref (aS 0)), (1, .int x1), (2, .int x2), (3, .int x3)] → W p l e (xR 6 90 (oX4_readNumber aS K r)) s m args below meth c H locs 0 0 (xQ below args s D K A (oX4_readNumber aS K r)) (F0 m 27 ls []) := by
  obtain ⟨hx, hb, hr, hml, hown, hK, hts, hA, hG, hlk, hte, hnm⟩ := id C
  intro fu
  induction fu with
  | zero =>
    intro S x1 x2 x3 r h
    exact nomatch (show (none : Option ((String × (S4)) ⊕ (Int32 × (S4)))) = some r from h)
  | succ fu ih =>
    intro S x1 x2 x3 r h H locs ls hP hD hS hl
    replace h : (if x1 ≤ x3 then some (.inr (x2, (S.1, S.2.1, (S.2.2 + x1)))) else (if (S.2.2 + x3) < 0 ∨ 2000 ≤ ((S.2.2 + x3)).toNatClampNeg then none else (if (S.1 ((S.2.2 + x3)).toNatClampNeg) = 0 then fX4_readNumber_27 fu S x1 x2 (x3 + (1 : Int32)) else fX4_readNumber_27 fu S x1 (x2 ||| ((1 : Int32) <<< (x3 &&& 31))) (x3 + (1 : Int32))))) = some r := h
    refine lv_iload_n hx hb dX4_readNumber_27 rfl (lv_at hl 3 rfl) ?_
    refine lv_iload_n hx hb dX4_readNumber_28 rfl (lv_at hl 1 rfl) ?_
    refine lv_icmp_ge (tgt := 58) hx hb dX4_readNumber_29 (by decide) (fun c9 => ?_) (fun c9 => ?_)
    · replace h := xi_t c9 h
      refine lv_aload_n hx hb dX4_readNumber_58 rfl (lv_at hl 0 rfl) ?_
      refine lv_dup hx hb dX4_readNumber_59 rfl ?_
      refine va_get (D := D) (ci := 4) (v := .int S.2.2) (C := RX4) (T := TX4) (N := 3) hx hb hts xu_X4 hown hK hP 0 rfl rfl 2 (by decide) (hts _ xw_67) (fun _ h9 => h9) rfl dX4_readNumber_60 ?_
      refine lv_iload_n hx hb dX4_readNumber_63 rfl (lv_at hl 1 rfl) ?_
      refine lv_iadd hx hb dX4_readNumber_64 ?_
      refine va_put (D := D) (ci := 4) (v := .int (S.2.2 + x1)) (ty := .int) (C := RX4) (T := TX4) (N := 3) hx hb hts xu_X4 tyX4 tyX4_ok nmX4 hown hK hP hD hS 0 rfl rfl 2 (by decide) (hts _ xw_67) (fun _ h9 => h9) rfl (by decide +kernel) rfl rfl (Nat.le_of_ble_eq_true rfl) dX4_readNumber_65 (fun H locs hP hD hS => ?_)
      have hP : va_P D vwCl (w4 aS K (S.1, S.2.1, (S.2.2 + x1))) H := hP
      have hD : va_D A (w4 aS K (S.1, S.2.1, (S.2.2 + x1))) := hD
      refine lv_iload_n hx hb dX4_readNumber_68 rfl (lv_at hl 2 rfl) ?_
      obtain rfl := Option.some.inj h
      exact xe_i C hP hD hS dX4_readNumber_69
    · replace h := xi_f c9 h
      refine lv_aload_n hx hb dX4_readNumber_32 rfl (lv_at hl 0 rfl) ?_
      refine va_get (D := D) (ci := 4) (v := .ref (aS 1)) (C := RX4) (T := TX4) (N := 3) hx hb hts xu_X4 hown hK hP 0 rfl rfl 0 (by decide) (hts _ xw_63) (fun _ h9 => h9) rfl dX4_readNumber_33 ?_
      refine lv_aload_n hx hb dX4_readNumber_36 rfl (lv_at hl 0 rfl) ?_
      refine va_get (D := D) (ci := 4) (v := .int S.2.2) (C := RX4) (T := TX4) (N := 3) hx hb hts xu_X4 hown hK hP 0 rfl rfl 2 (by decide) (hts _ xw_67) (fun _ h9 => h9) rfl dX4_readNumber_37 ?_
      refine lv_iload_n hx hb dX4_readNumber_40 rfl (lv_at hl 3 rfl) ?_
      refine lv_iadd hx hb dX4_readNumber_41 ?_
      obtain ⟨hi9, h⟩ := xi_g h
      refine va_zald hx hb hK hP 1 1 rfl rfl hi9 dX4_readNumber_42 ?_
      refine lv_if_eq (tgt := 52) hx hb dX4_readNumber_43 (by decide) (fun c9 => ?_) (fun c9 => ?_)
      · replace h := xi_t c9 h
        refine lv_iinc (v := (x3 + (1 : Int32))) (lv' := [(3, .int (x3 + (1 : Int32))), (0, .ref (aS 0)), (1, .int x1), (2, .int x2)]) hx hb dX4_readNumber_52 hl (k := 3) rfl (by rfl) (by decide) rfl (fun ls hl => ?_)
        refine lv_goto (tgt := 27) hx hb dX4_readNumber_55 (by decide) ?_
        exact ih _ _ _ _ _ h _ _ _ hP hD hS (lv_sub hl [1, 2, 3, 0] rfl)
      · replace h := xi_f c9 h
        refine lv_iload_n hx hb dX4_readNumber_46 rfl (lv_at hl 2 rfl) ?_
        refine lv_iconst (v := (1 : Int32)) hx hb dX4_readNumber_47 (by decide) ?_
        refine lv_iload_n hx hb dX4_readNumber_48 rfl (lv_at hl 3 rfl) ?_
        refine lv_ishl hx hb dX4_readNumber_49 ?_
        refine lv_ior hx hb dX4_readNumber_50 ?_
        refine lv_istore_n (lv' := [(2, .int (x2 ||| ((1 : Int32) <<< (x3 &&& 31)))), (0, .ref (aS 0)), (1, .int x1), (3, .int x3)]) hx hb dX4_readNumber_51 rfl hl (by decide) rfl (fun ls hl => ?_)
        refine lv_iinc (v := (x3 + (1 : Int32))) (lv' := [(3, .int (x3 + (1 : Int32))), (2, .int (x2 ||| ((1 : Int32) <<< (x3 &&& 31)))), (0, .ref (aS 0)), (1, .int x1)]) hx hb dX4_readNumber_52 hl (k := 3) rfl (by rfl) (by decide) rfl (fun ls hl => ?_)
        refine lv_goto (tgt := 27) hx hb dX4_readNumber_55 (by decide) ?_
        exact ih _ _ _ _ _ h _ _ _ hP hD hS (lv_sub hl [2, 3, 1, 0] rfl)
set_option maxHeartbeats 4000000 in
set_option maxRecDepth 100000 in
theorem mX4_readNumber (l : Launch) (hlt : l.stackTraces = false) (D : va_G) (K : Nat → ClassId) (aS : Nat → Nat) (sz : Nat) (S : S4) (p1 : Int32) (r : (String × (S4)) ⊕ (Int32 × (S4))) (h : fX4_readNumber S p1 = some r) : xMet l yX4_readNumber cX4_readNumber 4 (some .int) 6 90 D K [.ref (aS 0), .int p1] sz (w4 aS K S) (oX4_readNumber aS K r) := by
  refine xm_of _ (by decide +kernel) (Nat.le_of_ble_eq_true rfl) (fun p e s m args below meth c A C hP hD ls hl => ?_)
  have hl : lv_has ls 4 [(0, .ref (aS 0)), (1, .int p1)] := hl
  have hS : va_S A s.heap s.heap [] := va_S.rf
  obtain ⟨hx, hb, hr, hml, hown, hK, hts, hA, hG, hlk, hte, hnm⟩ := id C
  replace h : (if p1 ≤ (S.2.1 - S.2.2) then fX4_readNumber_27 xF S p1 (0 : Int32) (0 : Int32) else some (.inl ("java/lang/IllegalArgumentException", S))) = some r := h
  refine lv_iload_n hx hb dX4_readNumber_0 rfl (lv_at hl 1 rfl) ?_
  refine lv_aload_n hx hb dX4_readNumber_1 rfl (lv_at hl 0 rfl) ?_
  refine va_get (D := D) (ci := 4) (v := .int S.2.1) (C := RX4) (T := TX4) (N := 3) hx hb hts xu_X4 hown hK hP 0 rfl rfl 1 (by decide) (hts _ xw_65) (fun _ h9 => h9) rfl dX4_readNumber_2 ?_
  refine lv_aload_n hx hb dX4_readNumber_5 rfl (lv_at hl 0 rfl) ?_
  refine va_get (D := D) (ci := 4) (v := .int S.2.2) (C := RX4) (T := TX4) (N := 3) hx hb hts xu_X4 hown hK hP 0 rfl rfl 2 (by decide) (hts _ xw_67) (fun _ h9 => h9) rfl dX4_readNumber_6 ?_
  refine lv_isub hx hb dX4_readNumber_9 ?_
  refine lv_icmp_le (tgt := 23) hx hb dX4_readNumber_10 (by decide) (fun c9 => ?_) (fun c9 => ?_)
  · replace h := xi_t c9 h
    refine lv_iconst (v := (0 : Int32)) hx hb dX4_readNumber_23 (by decide) ?_
    refine lv_istore_n (lv' := [(2, .int (0 : Int32)), (0, .ref (aS 0)), (1, .int p1)]) hx hb dX4_readNumber_24 rfl hl (by decide) rfl (fun ls hl => ?_)
    refine lv_iconst (v := (0 : Int32)) hx hb dX4_readNumber_25 (by decide) ?_
    refine lv_istore_n (lv' := [(3, .int (0 : Int32)), (2, .int (0 : Int32)), (0, .ref (aS 0)), (1, .int p1)]) hx hb dX4_readNumber_26 rfl hl (by decide) rfl (fun ls hl => ?_)
    exact kX4_readNumber_27 C hlt _ _ _ _ _ _ h _ _ _ hP hD hS (lv_sub hl [2, 3, 1, 0] rfl)
  · replace h := xi_f c9 h
    obtain rfl := Option.some.inj h
    exact xe_throw C hlt (text := "the stream ends too early") xf_IllegalArgumentException xf_names xw_356 xw_44 (List.mem_of_getElem? (i := 5) rfl) xat_X4_26 xgd_X4_26 hl hP hD hS dX4_readNumber_13 dX4_readNumber_16 dX4_readNumber_17 dX4_readNumber_19 dX4_readNumber_22 (Nat.le_of_ble_eq_true rfl) (Nat.le_of_ble_eq_true rfl)
