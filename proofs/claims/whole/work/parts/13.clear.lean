abbrev oX3_clear (aO : Nat → Nat) (K : Nat → ClassId) (q : Unit × (S3)) : xO := .inr (none, w3 aO K q.2)
def fX3_clear (O : S3) : Option (Unit × (S3)) := some ((), (O.1, (va_cpy xs_counts O.2.1 ((0 : Int32)).toNatClampNeg ((0 : Int32)).toNatClampNeg ((9 : Int32)).toNatClampNeg), (0 : Int32)))
set_option maxHeartbeats 4000000 in
set_option maxRecDepth 100000 in
theorem mX3_clear (l : Launch) (D : va_G) (K : Nat → ClassId) (aO : Nat → Nat) (sz : Nat) (O : S3) (r : Unit × (S3)) (h : fX3_clear O = some r) : xMet l yX3_clear cX3_clear 1 none 1 64 D K [.ref (aO 0)] sz (w3 aO K O) (oX3_clear aO K r) := by
  refine xm_of _ (by decide +kernel) (Nat.le_of_ble_eq_true rfl) (fun p e s m args below meth c A C hP hD ls hl => ?_)
  have hl : lv_has ls 1 [(0, .ref (aO 0))] := hl
  have hS : va_S A s.heap s.heap [] := va_S.rf
  obtain ⟨hx, hb, hr, hml, hown, hK, hts, hA, hG, hlk, hte, hnm⟩ := id C
  replace h : some ((), (O.1, (va_cpy xs_counts O.2.1 ((0 : Int32)).toNatClampNeg ((0 : Int32)).toNatClampNeg ((9 : Int32)).toNatClampNeg), (0 : Int32))) = some r := h
  refine lv_aload_n hx hb dX3_clear_0 rfl (lv_at hl 0 rfl) ?_
  refine lv_iconst (v := (0 : Int32)) hx hb dX3_clear_1 (by decide) ?_
  refine va_put (D := D) (ci := 3) (v := .int (0 : Int32)) (ty := .int) (C := RX3) (T := TX3) (N := 3) hx hb hts xu_X3 tyX3 tyX3_ok nmX3 hown hK hP hD hS 0 rfl rfl 2 (by decide) (hts _ xw_170) (fun _ h9 => h9) rfl (by decide +kernel) rfl rfl (Nat.le_of_ble_eq_true rfl) dX3_clear_2 (fun H locs hP hD hS => ?_)
  have hP : va_P D vwCl (w3 aO K (O.1, O.2.1, (0 : Int32))) H := hP
  have hD : va_D A (w3 aO K (O.1, O.2.1, (0 : Int32))) := hD
  obtain ⟨r_COUNTS_AT_FIRST, hZCOUNTS_AT_FIRST, hXCOUNTS_AT_FIRST, hLCOUNTS_AT_FIRST, hNCOUNTS_AT_FIRST⟩ := hG.2.1.1
  refine va_gets hx hb hZCOUNTS_AT_FIRST hS hown (hts _ xw_156) (fun _ h9 => h9) dX3_clear_5 ?_
  refine lv_iconst (v := (0 : Int32)) hx hb dX3_clear_8 (by decide) ?_
  refine lv_aload_n hx hb dX3_clear_9 rfl (lv_at hl 0 rfl) ?_
  refine va_get (D := D) (ci := 3) (v := .ref (aO 2)) (C := RX3) (T := TX3) (N := 3) hx hb hts xu_X3 hown hK hP 0 rfl rfl 1 (by decide) (hts _ xw_167) (fun _ h9 => h9) rfl dX3_clear_10 ?_
  refine lv_iconst (v := (0 : Int32)) hx hb dX3_clear_13 (by decide) ?_
  refine lv_bipush (v := (9 : Int32)) hx hb dX3_clear_14 (by decide) ?_
  refine va_copyx hx hb (hml.trans hl.1.symm) hown (hts _ xw_345) (hts _ xw_347) (hts _ xw_346) (hts _ xw_47) hK hP hD hS hXCOUNTS_AT_FIRST hLCOUNTS_AT_FIRST hNCOUNTS_AT_FIRST 2 0 rfl rfl (by decide) (by decide) (by decide) (by decide) (by decide) (Nat.le_of_ble_eq_true rfl) (Nat.le_of_ble_eq_true rfl) dX3_clear_16 (fun H locs hP hD hS => ?_)
  have hP : va_P D vwCl (w3 aO K (O.1, (va_cpy xs_counts O.2.1 ((0 : Int32)).toNatClampNeg ((0 : Int32)).toNatClampNeg ((9 : Int32)).toNatClampNeg), (0 : Int32))) H := hP
  have hD : va_D A (w3 aO K (O.1, (va_cpy xs_counts O.2.1 ((0 : Int32)).toNatClampNeg ((0 : Int32)).toNatClampNeg ((9 : Int32)).toNatClampNeg), (0 : Int32))) := hD
  obtain rfl := Option.some.inj h
  exact xe_v C hP hD hS dX3_clear_19
