abbrev oX2_stretchIsOver (aL : Nat → Nat) (K : Nat → ClassId) (q : Int32 × (S2)) : xO := .inr ((some (.int q.1)), w2 aL K q.2)
def fX2_stretchIsOver (L : S2) : Option (Int32 × (S2)) := (if L.2.2.2.2.2.2.2.2.1 ≤ (1 : Int32) then some ((0 : Int32), L) else (if L.2.2.2.2.2.2.2.2.2.2.2 = 0 then some ((1 : Int32), L) else some ((0 : Int32), L)))
set_option maxHeartbeats 4000000 in
set_option maxRecDepth 100000 in
theorem mX2_stretchIsOver (l : Launch) (D : va_G) (K : Nat → ClassId) (aL : Nat → Nat) (sz : Nat) (L : S2) (r : Int32 × (S2)) (h : fX2_stretchIsOver L = some r) : xMet l yX2_stretchIsOver cX2_stretchIsOver 1 (some .boolean) 0 0 D K [.ref (aL 0)] sz (w2 aL K L) (oX2_stretchIsOver aL K r) := by
  refine xm_of _ (by decide +kernel) (Nat.le_of_ble_eq_true rfl) (fun p e s m args below meth c A C hP hD ls hl => ?_)
  have hl : lv_has ls 1 [(0, .ref (aL 0))] := hl
  have hS : va_S A s.heap s.heap [] := va_S.rf
  obtain ⟨hx, hb, hr, hml, hown, hK, hts, hA, hG, hlk, hte, hnm⟩ := id C
  replace h : (if L.2.2.2.2.2.2.2.2.1 ≤ (1 : Int32) then some ((0 : Int32), L) else (if L.2.2.2.2.2.2.2.2.2.2.2 = 0 then some ((1 : Int32), L) else some ((0 : Int32), L))) = some r := h
  refine lv_aload_n hx hb dX2_stretchIsOver_0 rfl (lv_at hl 0 rfl) ?_
  refine va_get (D := D) (ci := 2) (v := .int L.2.2.2.2.2.2.2.2.1) (C := RX2) (T := TX2) (N := 9) hx hb hts xu_X2 hown hK hP 0 rfl rfl 5 (by decide) (hts _ xw_112) (fun _ h9 => h9) rfl dX2_stretchIsOver_1 ?_
  refine lv_iconst (v := (1 : Int32)) hx hb dX2_stretchIsOver_4 (by decide) ?_
  refine lv_icmp_le (tgt := 19) hx hb dX2_stretchIsOver_5 (by decide) (fun c9 => ?_) (fun c9 => ?_)
  · replace h := xi_t c9 h
    refine lv_iconst (v := (0 : Int32)) hx hb dX2_stretchIsOver_19 (by decide) ?_
    obtain rfl := Option.some.inj h
    exact xe_z (r := (0 : Int32)) C xz0 hP hD hS dX2_stretchIsOver_20
  · replace h := xi_f c9 h
    refine lv_aload_n hx hb dX2_stretchIsOver_8 rfl (lv_at hl 0 rfl) ?_
    refine va_get (D := D) (ci := 2) (v := .int L.2.2.2.2.2.2.2.2.2.2.2) (C := RX2) (T := TX2) (N := 9) hx hb hts xu_X2 hown hK hP 0 rfl rfl 8 (by decide) (hts _ xw_115) (fun _ h9 => h9) rfl dX2_stretchIsOver_9 ?_
    refine lv_if_ne (tgt := 19) hx hb dX2_stretchIsOver_12 (by decide) (fun c9 => ?_) (fun c9 => ?_)
    · replace h := xi_f c9 h
      refine lv_iconst (v := (0 : Int32)) hx hb dX2_stretchIsOver_19 (by decide) ?_
      obtain rfl := Option.some.inj h
      exact xe_z (r := (0 : Int32)) C xz0 hP hD hS dX2_stretchIsOver_20
    · replace h := xi_t c9 h
      refine lv_iconst (v := (1 : Int32)) hx hb dX2_stretchIsOver_15 (by decide) ?_
      refine lv_goto (tgt := 20) hx hb dX2_stretchIsOver_16 (by decide) ?_
      obtain rfl := Option.some.inj h
      exact xe_z (r := (1 : Int32)) C xz1 hP hD hS dX2_stretchIsOver_20
abbrev oX2_context (K : Nat → ClassId) (q : Int32 × (Unit)) : xO := .inr ((some (.int q.1)), ([] : va_W))
def fX2_context (p0 : Int32) (p1 : Int32) (p2 : Int32) : Option (Int32 × (Unit)) := (if p0 = (0 : Int32) then some ((p1 - p1 / (4 : Int32) * (4 : Int32)), ()) else (if p0 = (1 : Int32) then some ((p1 / (8 : Int32)), ()) else (if p0 = (2 : Int32) then (if p1 = 0 then some ((0 : Int32), ()) else (if (8 : Int32) ≤ p1 then (if (20 : Int32) ≤ p1 then some ((3 : Int32), ()) else some ((2 : Int32), ())) else some ((1 : Int32), ()))) else some ((((2 : Int32) * (p1 / (16 : Int32))) + (p2 / (16 : Int32))), ()))))
set_option maxHeartbeats 4000000 in
set_option maxRecDepth 100000 in
theorem mX2_context (l : Launch) (D : va_G) (K : Nat → ClassId) (sz : Nat) (p0 : Int32) (p1 : Int32) (p2 : Int32) (r : Int32 × (Unit)) (h : fX2_context p0 p1 p2 = some r) : xMet l yX2_context cX2_context 3 (some .int) 0 0 D K [.int p0, .int p1, .int p2] sz (([] : va_W)) (oX2_context K r) := by
  refine xm_of _ (by decide +kernel) (Nat.le_of_ble_eq_true rfl) (fun p e s m args below meth c A C hP hD ls hl => ?_)
  have hl : lv_has ls 3 [(0, .int p0), (1, .int p1), (2, .int p2)] := hl
  have hS : va_S A s.heap s.heap [] := va_S.rf
  obtain ⟨hx, hb, hr, hml, hown, hK, hts, hA, hG, hlk, hte, hnm⟩ := id C
  replace h : (if p0 = (0 : Int32) then some ((p1 - p1 / (4 : Int32) * (4 : Int32)), ()) else (if p0 = (1 : Int32) then some ((p1 / (8 : Int32)), ()) else (if p0 = (2 : Int32) then (if p1 = 0 then some ((0 : Int32), ()) else (if (8 : Int32) ≤ p1 then (if (20 : Int32) ≤ p1 then some ((3 : Int32), ()) else some ((2 : Int32), ())) else some ((1 : Int32), ()))) else some ((((2 : Int32) * (p1 / (16 : Int32))) + (p2 / (16 : Int32))), ())))) = some r := h
  refine lv_iload_n hx hb dX2_context_0 rfl (lv_at hl 0 rfl) ?_
  by_cases c9 : p0 = (0 : Int32)
  · replace h := xi_t c9 h
    refine lv_tableIn (off := 27) (tgt := 28) hx hb dX2_context_1 (by rw [c9]; decide) (by rw [c9]; decide) (by rw [c9]; decide) (by decide) ?_
    refine lv_iload_n hx hb dX2_context_28 rfl (lv_at hl 1 rfl) ?_
    refine lv_iconst (v := (4 : Int32)) hx hb dX2_context_29 (by decide) ?_
    refine lv_irem hx hb dX2_context_30 (by decide) ?_
    obtain rfl := Option.some.inj h
    exact xe_i C hP hD hS dX2_context_31
  replace h := xi_f c9 h
  have c90 := c9
  by_cases c9 : p0 = (1 : Int32)
  · replace h := xi_t c9 h
    refine lv_tableIn (off := 31) (tgt := 32) hx hb dX2_context_1 (by rw [c9]; decide) (by rw [c9]; decide) (by rw [c9]; decide) (by decide) ?_
    refine lv_iload_n hx hb dX2_context_32 rfl (lv_at hl 1 rfl) ?_
    refine lv_bipush (v := (8 : Int32)) hx hb dX2_context_33 (by decide) ?_
    refine lv_idiv hx hb dX2_context_35 (by decide) ?_
    obtain rfl := Option.some.inj h
    exact xe_i C hP hD hS dX2_context_36
  replace h := xi_f c9 h
  have c91 := c9
  by_cases c9 : p0 = (2 : Int32)
  · replace h := xi_t c9 h
    refine lv_tableIn (off := 36) (tgt := 37) hx hb dX2_context_1 (by rw [c9]; decide) (by rw [c9]; decide) (by rw [c9]; decide) (by decide) ?_
    refine lv_iload_n hx hb dX2_context_37 rfl (lv_at hl 1 rfl) ?_
    refine lv_if_ne (tgt := 45) hx hb dX2_context_38 (by decide) (fun c9 => ?_) (fun c9 => ?_)
    · replace h := xi_f c9 h
      refine lv_iload_n hx hb dX2_context_45 rfl (lv_at hl 1 rfl) ?_
      refine lv_bipush (v := (8 : Int32)) hx hb dX2_context_46 (by decide) ?_
      refine lv_icmp_ge (tgt := 55) hx hb dX2_context_48 (by decide) (fun c9 => ?_) (fun c9 => ?_)
      · replace h := xi_t c9 h
        refine lv_iload_n hx hb dX2_context_55 rfl (lv_at hl 1 rfl) ?_
        refine lv_bipush (v := (20 : Int32)) hx hb dX2_context_56 (by decide) ?_
        refine lv_icmp_ge (tgt := 65) hx hb dX2_context_58 (by decide) (fun c9 => ?_) (fun c9 => ?_)
        · replace h := xi_t c9 h
          refine lv_iconst (v := (3 : Int32)) hx hb dX2_context_65 (by decide) ?_
          obtain rfl := Option.some.inj h
          exact xe_i C hP hD hS dX2_context_66
        · replace h := xi_f c9 h
          refine lv_iconst (v := (2 : Int32)) hx hb dX2_context_61 (by decide) ?_
          refine lv_goto (tgt := 66) hx hb dX2_context_62 (by decide) ?_
          obtain rfl := Option.some.inj h
          exact xe_i C hP hD hS dX2_context_66
      · replace h := xi_f c9 h
        refine lv_iconst (v := (1 : Int32)) hx hb dX2_context_51 (by decide) ?_
        refine lv_goto (tgt := 66) hx hb dX2_context_52 (by decide) ?_
        obtain rfl := Option.some.inj h
        exact xe_i C hP hD hS dX2_context_66
    · replace h := xi_t c9 h
      refine lv_iconst (v := (0 : Int32)) hx hb dX2_context_41 (by decide) ?_
      refine lv_goto (tgt := 66) hx hb dX2_context_42 (by decide) ?_
      obtain rfl := Option.some.inj h
      exact xe_i C hP hD hS dX2_context_66
  replace h := xi_f c9 h
  have c92 := c9
  refine lv_tableOut (tgt := 67) hx hb dX2_context_1 (xi_sw3 c90 c91 c92) (by decide) ?_
  refine lv_iconst (v := (2 : Int32)) hx hb dX2_context_67 (by decide) ?_
  refine lv_iload_n hx hb dX2_context_68 rfl (lv_at hl 1 rfl) ?_
  refine lv_bipush (v := (16 : Int32)) hx hb dX2_context_69 (by decide) ?_
  refine lv_idiv hx hb dX2_context_71 (by decide) ?_
  refine lv_imul hx hb dX2_context_72 ?_
  refine lv_iload_n hx hb dX2_context_73 rfl (lv_at hl 2 rfl) ?_
  refine lv_bipush (v := (16 : Int32)) hx hb dX2_context_74 (by decide) ?_
  refine lv_idiv hx hb dX2_context_76 (by decide) ?_
  refine lv_iadd hx hb dX2_context_77 ?_
  obtain rfl := Option.some.inj h
  exact xe_i C hP hD hS dX2_context_78
