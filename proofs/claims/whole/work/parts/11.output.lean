abbrev oX3_add (aO : Nat → Nat) (K : Nat → ClassId) (q : Unit × (S3)) : xO := .inr (none, w3 aO K q.2)
def fX3_add (O : S3) (p1 : Int32) (p2 : Int32) : Option (Unit × (S3)) := (if O.2.2 < 0 ∨ 400 ≤ (O.2.2).toNatClampNeg then none else (if p2 < 0 ∨ 9 ≤ (p2).toNatClampNeg then none else (if p2 < 0 ∨ 9 ≤ (p2).toNatClampNeg then none else some ((), ((upd O.1 (O.2.2).toNatClampNeg p1), (upd O.2.1 (p2).toNatClampNeg ((O.2.1 (p2).toNatClampNeg) + (1 : Int32))), (O.2.2 + (1 : Int32)))))))
set_option maxHeartbeats 4000000 in
set_option maxRecDepth 100000 in
theorem mX3_add (l : Launch) (D : va_G) (K : Nat → ClassId) (aO : Nat → Nat) (sz : Nat) (O : S3) (p1 : Int32) (p2 : Int32) (r : Unit × (S3)) (h : fX3_add O p1 p2 = some r) : xMet l yX3_add cX3_add 3 none 0 0 D K [.ref (aO 0), .int p1, .int p2] sz (w3 aO K O) (oX3_add aO K r) := by
  refine xm_of _ (by decide +kernel) (Nat.le_of_ble_eq_true rfl) (fun p e s m args below meth c A C hP hD ls hl => ?_)
  have hl : lv_has ls 3 [(0, .ref (aO 0)), (1, .int p1), (2, .int p2)] := hl
  have hS : va_S A s.heap s.heap [] := va_S.rf
  obtain ⟨hx, hb, hr, hml, hown, hK, hts, hA, hG, hlk, hte, hnm⟩ := id C
  replace h : (if O.2.2 < 0 ∨ 400 ≤ (O.2.2).toNatClampNeg then none else (if p2 < 0 ∨ 9 ≤ (p2).toNatClampNeg then none else (if p2 < 0 ∨ 9 ≤ (p2).toNatClampNeg then none else some ((), ((upd O.1 (O.2.2).toNatClampNeg p1), (upd O.2.1 (p2).toNatClampNeg ((O.2.1 (p2).toNatClampNeg) + (1 : Int32))), (O.2.2 + (1 : Int32))))))) = some r := h
  refine lv_aload_n hx hb dX3_add_0 rfl (lv_at hl 0 rfl) ?_
  refine va_get (D := D) (ci := 3) (v := .ref (aO 1)) (C := RX3) (T := TX3) (N := 3) hx hb hts xu_X3 hown hK hP 0 rfl rfl 0 (by decide) (hts _ xw_165) (fun _ h9 => h9) rfl dX3_add_1 ?_
  refine lv_aload_n hx hb dX3_add_4 rfl (lv_at hl 0 rfl) ?_
  refine va_get (D := D) (ci := 3) (v := .int O.2.2) (C := RX3) (T := TX3) (N := 3) hx hb hts xu_X3 hown hK hP 0 rfl rfl 2 (by decide) (hts _ xw_170) (fun _ h9 => h9) rfl dX3_add_5 ?_
  refine lv_iload_n hx hb dX3_add_8 rfl (lv_at hl 1 rfl) ?_
  obtain ⟨hi9, h⟩ := xi_g h
  refine va_iast hx hb hK hP hD hS 1 0 rfl rfl hi9 dX3_add_9 (fun H locs hP hD hS => ?_)
  have hP : va_P D vwCl (w3 aO K ((upd O.1 (O.2.2).toNatClampNeg p1), O.2.1, O.2.2)) H := hP
  have hD : va_D A (w3 aO K ((upd O.1 (O.2.2).toNatClampNeg p1), O.2.1, O.2.2)) := hD
  refine lv_aload_n hx hb dX3_add_10 rfl (lv_at hl 0 rfl) ?_
  refine lv_dup hx hb dX3_add_11 rfl ?_
  refine va_get (D := D) (ci := 3) (v := .int O.2.2) (C := RX3) (T := TX3) (N := 3) hx hb hts xu_X3 hown hK hP 0 rfl rfl 2 (by decide) (hts _ xw_170) (fun _ h9 => h9) rfl dX3_add_12 ?_
  refine lv_iconst (v := (1 : Int32)) hx hb dX3_add_15 (by decide) ?_
  refine lv_iadd hx hb dX3_add_16 ?_
  refine va_put (D := D) (ci := 3) (v := .int (O.2.2 + (1 : Int32))) (ty := .int) (C := RX3) (T := TX3) (N := 3) hx hb hts xu_X3 tyX3 tyX3_ok nmX3 hown hK hP hD hS 0 rfl rfl 2 (by decide) (hts _ xw_170) (fun _ h9 => h9) rfl (by decide +kernel) rfl rfl (Nat.le_of_ble_eq_true rfl) dX3_add_17 (fun H locs hP hD hS => ?_)
  have hP : va_P D vwCl (w3 aO K ((upd O.1 (O.2.2).toNatClampNeg p1), O.2.1, (O.2.2 + (1 : Int32)))) H := hP
  have hD : va_D A (w3 aO K ((upd O.1 (O.2.2).toNatClampNeg p1), O.2.1, (O.2.2 + (1 : Int32)))) := hD
  refine lv_aload_n hx hb dX3_add_20 rfl (lv_at hl 0 rfl) ?_
  refine va_get (D := D) (ci := 3) (v := .ref (aO 2)) (C := RX3) (T := TX3) (N := 3) hx hb hts xu_X3 hown hK hP 0 rfl rfl 1 (by decide) (hts _ xw_167) (fun _ h9 => h9) rfl dX3_add_21 ?_
  refine lv_iload_n hx hb dX3_add_24 rfl (lv_at hl 2 rfl) ?_
  refine lv_dup2_11 hx hb dX3_add_25 rfl rfl ?_
  obtain ⟨hi9, h⟩ := xi_g h
  refine va_iald hx hb hK hP 2 0 rfl rfl hi9 dX3_add_26 ?_
  refine lv_iconst (v := (1 : Int32)) hx hb dX3_add_27 (by decide) ?_
  refine lv_iadd hx hb dX3_add_28 ?_
  obtain ⟨hi9, h⟩ := xi_g h
  refine va_iast hx hb hK hP hD hS 2 0 rfl rfl hi9 dX3_add_29 (fun H locs hP hD hS => ?_)
  have hP : va_P D vwCl (w3 aO K ((upd O.1 (O.2.2).toNatClampNeg p1), (upd O.2.1 (p2).toNatClampNeg ((O.2.1 (p2).toNatClampNeg) + (1 : Int32))), (O.2.2 + (1 : Int32)))) H := hP
  have hD : va_D A (w3 aO K ((upd O.1 (O.2.2).toNatClampNeg p1), (upd O.2.1 (p2).toNatClampNeg ((O.2.1 (p2).toNatClampNeg) + (1 : Int32))), (O.2.2 + (1 : Int32)))) := hD
  obtain rfl := Option.some.inj h
  exact xe_v C hP hD hS dX3_add_30
abbrev oX3_back (aO : Nat → Nat) (K : Nat → ClassId) (q : Int32 × (S3)) : xO := .inr ((some (.int q.1)), w3 aO K q.2)
def fX3_back (O : S3) (p1 : Int32) : Option (Int32 × (S3)) := (if O.2.2 < p1 then some ((0 : Int32), O) else (if (O.2.2 - p1) < 0 ∨ 400 ≤ ((O.2.2 - p1)).toNatClampNeg then none else some ((O.1 ((O.2.2 - p1)).toNatClampNeg), O)))
set_option maxHeartbeats 4000000 in
set_option maxRecDepth 100000 in
theorem mX3_back (l : Launch) (D : va_G) (K : Nat → ClassId) (aO : Nat → Nat) (sz : Nat) (O : S3) (p1 : Int32) (r : Int32 × (S3)) (h : fX3_back O p1 = some r) : xMet l yX3_back cX3_back 2 (some .int) 0 0 D K [.ref (aO 0), .int p1] sz (w3 aO K O) (oX3_back aO K r) := by
  refine xm_of _ (by decide +kernel) (Nat.le_of_ble_eq_true rfl) (fun p e s m args below meth c A C hP hD ls hl => ?_)
  have hl : lv_has ls 2 [(0, .ref (aO 0)), (1, .int p1)] := hl
  have hS : va_S A s.heap s.heap [] := va_S.rf
  obtain ⟨hx, hb, hr, hml, hown, hK, hts, hA, hG, hlk, hte, hnm⟩ := id C
  replace h : (if O.2.2 < p1 then some ((0 : Int32), O) else (if (O.2.2 - p1) < 0 ∨ 400 ≤ ((O.2.2 - p1)).toNatClampNeg then none else some ((O.1 ((O.2.2 - p1)).toNatClampNeg), O))) = some r := h
  refine lv_iload_n hx hb dX3_back_0 rfl (lv_at hl 1 rfl) ?_
  refine lv_aload_n hx hb dX3_back_1 rfl (lv_at hl 0 rfl) ?_
  refine va_get (D := D) (ci := 3) (v := .int O.2.2) (C := RX3) (T := TX3) (N := 3) hx hb hts xu_X3 hown hK hP 0 rfl rfl 2 (by decide) (hts _ xw_170) (fun _ h9 => h9) rfl dX3_back_2 ?_
  refine lv_icmp_gt (tgt := 22) hx hb dX3_back_5 (by decide) (fun c9 => ?_) (fun c9 => ?_)
  · replace h := xi_t c9 h
    refine lv_iconst (v := (0 : Int32)) hx hb dX3_back_22 (by decide) ?_
    obtain rfl := Option.some.inj h
    exact xe_i C hP hD hS dX3_back_23
  · replace h := xi_f c9 h
    refine lv_aload_n hx hb dX3_back_8 rfl (lv_at hl 0 rfl) ?_
    refine va_get (D := D) (ci := 3) (v := .ref (aO 1)) (C := RX3) (T := TX3) (N := 3) hx hb hts xu_X3 hown hK hP 0 rfl rfl 0 (by decide) (hts _ xw_165) (fun _ h9 => h9) rfl dX3_back_9 ?_
    refine lv_aload_n hx hb dX3_back_12 rfl (lv_at hl 0 rfl) ?_
    refine va_get (D := D) (ci := 3) (v := .int O.2.2) (C := RX3) (T := TX3) (N := 3) hx hb hts xu_X3 hown hK hP 0 rfl rfl 2 (by decide) (hts _ xw_170) (fun _ h9 => h9) rfl dX3_back_13 ?_
    refine lv_iload_n hx hb dX3_back_16 rfl (lv_at hl 1 rfl) ?_
    refine lv_isub hx hb dX3_back_17 ?_
    obtain ⟨hi9, h⟩ := xi_g h
    refine va_iald hx hb hK hP 1 0 rfl rfl hi9 dX3_back_18 ?_
    refine lv_goto (tgt := 23) hx hb dX3_back_19 (by decide) ?_
    obtain rfl := Option.some.inj h
    exact xe_i C hP hD hS dX3_back_23
abbrev oX3_remember (aO : Nat → Nat) (K : Nat → ClassId) (q : Unit × (S3)) : xO := .inr (none, w3 aO K q.2)
def fX3_remember_3 : Nat → S3 → Int32 → Int32 → Option (Unit × (S3))
  | 0 => fun _ _ _ => none
  | fu + 1 => fun O x1 x2 => (if x2 ≤ (5 : Int32) then (if (5 : Int32) < 0 ∨ 9 ≤ ((5 : Int32)).toNatClampNeg then none else some ((), (O.1, (upd O.2.1 ((5 : Int32)).toNatClampNeg x1), O.2.2))) else (if (x2 - (1 : Int32)) < 0 ∨ 9 ≤ ((x2 - (1 : Int32))).toNatClampNeg then none else (if x2 < 0 ∨ 9 ≤ (x2).toNatClampNeg then none else fX3_remember_3 fu (O.1, (upd O.2.1 (x2).toNatClampNeg (O.2.1 ((x2 - (1 : Int32))).toNatClampNeg)), O.2.2) x1 (x2 + (-1 : Int32)))))
def fX3_remember (O : S3) (p1 : Int32) : Option (Unit × (S3)) := fX3_remember_3 xF O p1 (8 : Int32)
set_option maxHeartbeats 4000000 in
set_option maxRecDepth 100000 in
theorem kX3_remember_3 {p : Program} {l : Launch} {e : Env} {s : State} {m : MethodId} {args : Array Value} {below : List Frame} {meth : Method} {c : Code} {D : va_G} {K : Nat → ClassId} {A : Nat → Prop} {aO : Nat → Nat} (C : xC p s m args meth c cX3_remember 3 none yX3_remember D K A []) : ∀ fu : Nat, ∀ (O : S3) (x1 : Int32) (x2 : Int32) (r : Unit × (S3)), fX3_remember_3 fu O x1 x2 = some r → ∀ (H : Heap) (locs : List Loc) (ls : Array Slot), va_P D vwCl (w3 aO K O) H → va_D A (w3 aO K O) → va_S A s.heap H locs → lv_has ls 3 [(0, .ref (aO 0)), (1, .int x1), (2, .int x2)] → W p l e (xR 0 0 (oX3_remember aO K r)) s m args below meth c H locs 0 0 (xQ below args s D K A (oX3_remember aO K r)) (F0 m 3 ls []) := by
  obtain ⟨hx, hb, hr, hml, hown, hK, hts, hA, hG, hlk, hte, hnm⟩ := id C
  intro fu
  induction fu with
  | zero =>
    intro O x1 x2 r h
    exact nomatch (show (none : Option (Unit × (S3))) = some r from h)
  | succ fu ih =>
    intro O x1 x2 r h H locs ls hP hD hS hl
    replace h : (if x2 ≤ (5 : Int32) then (if (5 : Int32) < 0 ∨ 9 ≤ ((5 : Int32)).toNatClampNeg then none else some ((), (O.1, (upd O.2.1 ((5 : Int32)).toNatClampNeg x1), O.2.2))) else (if (x2 - (1 : Int32)) < 0 ∨ 9 ≤ ((x2 - (1 : Int32))).toNatClampNeg then none else (if x2 < 0 ∨ 9 ≤ (x2).toNatClampNeg then none else fX3_remember_3 fu (O.1, (upd O.2.1 (x2).toNatClampNeg (O.2.1 ((x2 - (1 : Int32))).toNatClampNeg)), O.2.2) x1 (x2 + (-1 : Int32))))) = some r := h
    refine lv_iload_n hx hb dX3_remember_3 rfl (lv_at hl 2 rfl) ?_
    refine lv_iconst (v := (5 : Int32)) hx hb dX3_remember_4 (by decide) ?_
    refine lv_icmp_le (tgt := 28) hx hb dX3_remember_5 (by decide) (fun c9 => ?_) (fun c9 => ?_)
    · replace h := xi_t c9 h
      refine lv_aload_n hx hb dX3_remember_28 rfl (lv_at hl 0 rfl) ?_
      refine va_get (D := D) (ci := 3) (v := .ref (aO 2)) (C := RX3) (T := TX3) (N := 3) hx hb hts xu_X3 hown hK hP 0 rfl rfl 1 (by decide) (hts _ xw_167) (fun _ h9 => h9) rfl dX3_remember_29 ?_
      refine lv_iconst (v := (5 : Int32)) hx hb dX3_remember_32 (by decide) ?_
      refine lv_iload_n hx hb dX3_remember_33 rfl (lv_at hl 1 rfl) ?_
      obtain ⟨hi9, h⟩ := xi_g h
      refine va_iast hx hb hK hP hD hS 2 0 rfl rfl hi9 dX3_remember_34 (fun H locs hP hD hS => ?_)
      have hP : va_P D vwCl (w3 aO K (O.1, (upd O.2.1 ((5 : Int32)).toNatClampNeg x1), O.2.2)) H := hP
      have hD : va_D A (w3 aO K (O.1, (upd O.2.1 ((5 : Int32)).toNatClampNeg x1), O.2.2)) := hD
      obtain rfl := Option.some.inj h
      exact xe_v C hP hD hS dX3_remember_35
    · replace h := xi_f c9 h
      refine lv_aload_n hx hb dX3_remember_8 rfl (lv_at hl 0 rfl) ?_
      refine va_get (D := D) (ci := 3) (v := .ref (aO 2)) (C := RX3) (T := TX3) (N := 3) hx hb hts xu_X3 hown hK hP 0 rfl rfl 1 (by decide) (hts _ xw_167) (fun _ h9 => h9) rfl dX3_remember_9 ?_
      refine lv_iload_n hx hb dX3_remember_12 rfl (lv_at hl 2 rfl) ?_
      refine lv_aload_n hx hb dX3_remember_13 rfl (lv_at hl 0 rfl) ?_
      refine va_get (D := D) (ci := 3) (v := .ref (aO 2)) (C := RX3) (T := TX3) (N := 3) hx hb hts xu_X3 hown hK hP 0 rfl rfl 1 (by decide) (hts _ xw_167) (fun _ h9 => h9) rfl dX3_remember_14 ?_
      refine lv_iload_n hx hb dX3_remember_17 rfl (lv_at hl 2 rfl) ?_
      refine lv_iconst (v := (1 : Int32)) hx hb dX3_remember_18 (by decide) ?_
      refine lv_isub hx hb dX3_remember_19 ?_
      obtain ⟨hi9, h⟩ := xi_g h
      refine va_iald hx hb hK hP 2 0 rfl rfl hi9 dX3_remember_20 ?_
      obtain ⟨hi9, h⟩ := xi_g h
      refine va_iast hx hb hK hP hD hS 2 0 rfl rfl hi9 dX3_remember_21 (fun H locs hP hD hS => ?_)
      have hP : va_P D vwCl (w3 aO K (O.1, (upd O.2.1 (x2).toNatClampNeg (O.2.1 ((x2 - (1 : Int32))).toNatClampNeg)), O.2.2)) H := hP
      have hD : va_D A (w3 aO K (O.1, (upd O.2.1 (x2).toNatClampNeg (O.2.1 ((x2 - (1 : Int32))).toNatClampNeg)), O.2.2)) := hD
      refine lv_iinc (v := (x2 + (-1 : Int32))) (lv' := [(2, .int (x2 + (-1 : Int32))), (0, .ref (aO 0)), (1, .int x1)]) hx hb dX3_remember_22 hl (k := 2) rfl (by rfl) (by decide) rfl (fun ls hl => ?_)
      refine lv_goto (tgt := 3) hx hb dX3_remember_25 (by decide) ?_
      exact ih _ _ _ _ h _ _ _ hP hD hS (lv_sub hl [1, 2, 0] rfl)
set_option maxHeartbeats 4000000 in
set_option maxRecDepth 100000 in
theorem mX3_remember (l : Launch) (D : va_G) (K : Nat → ClassId) (aO : Nat → Nat) (sz : Nat) (O : S3) (p1 : Int32) (r : Unit × (S3)) (h : fX3_remember O p1 = some r) : xMet l yX3_remember cX3_remember 3 none 0 0 D K [.ref (aO 0), .int p1] sz (w3 aO K O) (oX3_remember aO K r) := by
  refine xm_of _ (by decide +kernel) (Nat.le_of_ble_eq_true rfl) (fun p e s m args below meth c A C hP hD ls hl => ?_)
  have hl : lv_has ls 3 [(0, .ref (aO 0)), (1, .int p1)] := hl
  have hS : va_S A s.heap s.heap [] := va_S.rf
  obtain ⟨hx, hb, hr, hml, hown, hK, hts, hA, hG, hlk, hte, hnm⟩ := id C
  replace h : fX3_remember_3 xF O p1 (8 : Int32) = some r := h
  refine lv_bipush (v := (8 : Int32)) hx hb dX3_remember_0 (by decide) ?_
  refine lv_istore_n (lv' := [(2, .int (8 : Int32)), (0, .ref (aO 0)), (1, .int p1)]) hx hb dX3_remember_2 rfl hl (by decide) rfl (fun ls hl => ?_)
  exact kX3_remember_3 C _ _ _ _ _ h _ _ _ hP hD hS (lv_sub hl [1, 2, 0] rfl)
