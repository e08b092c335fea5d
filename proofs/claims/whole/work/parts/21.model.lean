abbrev oX6_number (aM : Nat → Nat) (K : Nat → ClassId) (q : Int32 × (S6)) : xO := .inr ((some (.int q.1)), w6 aM K q.2)
def fX6_number_66 (rec33 : S6 → Int32 → Int32 → Int32 → Option (Int32 × (S6))) (M : S6) (x1 : Int32) (x3 : Int32) (t0 : Int32) : Option (Int32 × (S6)) := rec33 (M.1, M.2.1, M.2.2.1, (M.2.2.2.1 + (1 : Int32)), M.2.2.2.2.1, M.2.2.2.2.2.1, M.2.2.2.2.2.2.1, M.2.2.2.2.2.2.2.1, M.2.2.2.2.2.2.2.2.1, M.2.2.2.2.2.2.2.2.2.1, M.2.2.2.2.2.2.2.2.2.2.1, M.2.2.2.2.2.2.2.2.2.2.2.1, M.2.2.2.2.2.2.2.2.2.2.2.2.1, M.2.2.2.2.2.2.2.2.2.2.2.2.2.1, M.2.2.2.2.2.2.2.2.2.2.2.2.2.2.1, M.2.2.2.2.2.2.2.2.2.2.2.2.2.2.2.1, M.2.2.2.2.2.2.2.2.2.2.2.2.2.2.2.2.1, M.2.2.2.2.2.2.2.2.2.2.2.2.2.2.2.2.2.1, M.2.2.2.2.2.2.2.2.2.2.2.2.2.2.2.2.2.2.1, M.2.2.2.2.2.2.2.2.2.2.2.2.2.2.2.2.2.2.2.1, M.2.2.2.2.2.2.2.2.2.2.2.2.2.2.2.2.2.2.2.2) x1 t0 (x3 + (1 : Int32))
def fX6_number_33 : Nat → S6 → Int32 → Int32 → Int32 → Option (Int32 × (S6))
  | 0 => fun _ _ _ _ => none
  | fu + 1 => fun M x1 x2 x3 => (if x1 ≤ x3 then some (x2, M) else (if M.2.2.2.2.1 = 0 then (if M.2.2.2.1 < 0 ∨ 2000 ≤ (M.2.2.2.1).toNatClampNeg then none else (if (M.2.2.1 (M.2.2.2.1).toNatClampNeg) = 0 then fX6_number_66 (fX6_number_33 fu) M x1 x3 x2 else fX6_number_66 (fX6_number_33 fu) M x1 x3 (x2 ||| ((1 : Int32) <<< (x3 &&& 31))))) else some (x2, M)))
def fX6_number_26 (M : S6) (x1 : Int32) (t1 : Int32) : Option (Int32 × (S6)) := (if t1 = 0 ∨ t1 = 1 then fX6_number_33 xF (M.1, M.2.1, M.2.2.1, M.2.2.2.1, t1, M.2.2.2.2.2.1, M.2.2.2.2.2.2.1, M.2.2.2.2.2.2.2.1, M.2.2.2.2.2.2.2.2.1, M.2.2.2.2.2.2.2.2.2.1, M.2.2.2.2.2.2.2.2.2.2.1, M.2.2.2.2.2.2.2.2.2.2.2.1, M.2.2.2.2.2.2.2.2.2.2.2.2.1, M.2.2.2.2.2.2.2.2.2.2.2.2.2.1, M.2.2.2.2.2.2.2.2.2.2.2.2.2.2.1, M.2.2.2.2.2.2.2.2.2.2.2.2.2.2.2.1, M.2.2.2.2.2.2.2.2.2.2.2.2.2.2.2.2.1, M.2.2.2.2.2.2.2.2.2.2.2.2.2.2.2.2.2.1, M.2.2.2.2.2.2.2.2.2.2.2.2.2.2.2.2.2.2.1, M.2.2.2.2.2.2.2.2.2.2.2.2.2.2.2.2.2.2.2.1, M.2.2.2.2.2.2.2.2.2.2.2.2.2.2.2.2.2.2.2.2) x1 (0 : Int32) (0 : Int32) else none)
def fX6_number (M : S6) (p1 : Int32) : Option (Int32 × (S6)) := (if M.2.2.2.2.1 = 0 then (if (M.2.2.2.1 + p1) ≤ M.2.1 then fX6_number_26 M p1 (0 : Int32) else fX6_number_26 M p1 (1 : Int32)) else fX6_number_26 M p1 (1 : Int32))
set_option maxHeartbeats 4000000 in
set_option maxRecDepth 100000 in
theorem kX6_number_66 {p : Program} {l : Launch} {e : Env} {s : State} {m : MethodId} {args : Array Value} {below : List Frame} {meth : Method} {c : Code} {D : va_G} {K : Nat → ClassId} {A : Nat → Prop} {aM : Nat → Nat} (C : xC p s m args meth c cX6_number 4 (some .int) yX6_number D K A []) (rec33 : S6 → Int32 → Int32 → Int32 → Option (Int32 × (S6))) (hrec33 : ∀ (M : S6) (x1 : Int32) (x2 : Int32) (x3 : Int32) (r : Int32 × (S6)), rec33 M x1 x2 x3 = some r → ∀ (H : Heap) (locs : List Loc) (ls : Array Slot), va_P D vwCl (w6 aM K M) H → va_D A (w6 aM K M) → va_S A s.heap H locs → lv_has ls 4 [(0, .ref (aM 0)), (1, .int x1), (2, .int x2), (3, .int x3)] → W p l e (xR 0 0 (oX6_number aM K r)) s m args below meth c H locs 0 0 (xQ below args s D K A (oX6_number aM K r)) (F0 m 33 ls [])) : ∀ (M : S6) (x1 : Int32) (x3 : Int32) (t0 : Int32) (r : Int32 × (S6)), fX6_number_66  rec33 M x1 x3 t0 = some r → ∀ (H : Heap) (locs : List Loc) (ls : Array Slot), va_P D vwCl (w6 aM K M) H → va_D A (w6 aM K M) → va_S A s.heap H locs → lv_has ls 4 [(0, .ref (aM 0)), (1, .int x1), (3, .int x3)] → W p l e (xR 0 0 (oX6_number aM K r)) s m args below meth c H locs 0 0 (xQ below args s D K A (oX6_number aM K r)) (F0 m 66 ls [.int t0]) := by
  obtain ⟨hx, hb, hr, hml, hown, hK, hts, hA, hG, hlk, hte, hnm⟩ := id C
  intro M x1 x3 t0 r h H locs ls hP hD hS hl
  replace h : rec33 (M.1, M.2.1, M.2.2.1, (M.2.2.2.1 + (1 : Int32)), M.2.2.2.2.1, M.2.2.2.2.2.1, M.2.2.2.2.2.2.1, M.2.2.2.2.2.2.2.1, M.2.2.2.2.2.2.2.2.1, M.2.2.2.2.2.2.2.2.2.1, M.2.2.2.2.2.2.2.2.2.2.1, M.2.2.2.2.2.2.2.2.2.2.2.1, M.2.2.2.2.2.2.2.2.2.2.2.2.1, M.2.2.2.2.2.2.2.2.2.2.2.2.2.1, M.2.2.2.2.2.2.2.2.2.2.2.2.2.2.1, M.2.2.2.2.2.2.2.2.2.2.2.2.2.2.2.1, M.2.2.2.2.2.2.2.2.2.2.2.2.2.2.2.2.1, M.2.2.2.2.2.2.2.2.2.2.2.2.2.2.2.2.2.1, M.2.2.2.2.2.2.2.2.2.2.2.2.2.2.2.2.2.2.1, M.2.2.2.2.2.2.2.2.2.2.2.2.2.2.2.2.2.2.2.1, M.2.2.2.2.2.2.2.2.2.2.2.2.2.2.2.2.2.2.2.2) x1 t0 (x3 + (1 : Int32)) = some r := h
  refine lv_istore_n (lv' := [(2, .int t0), (0, .ref (aM 0)), (1, .int x1), (3, .int x3)]) hx hb dX6_number_66 rfl hl (by decide) rfl (fun ls hl => ?_)
  refine lv_aload_n hx hb dX6_number_67 rfl (lv_at hl 1 rfl) ?_
  refine lv_dup hx hb dX6_number_68 rfl ?_
  refine va_get (D := D) (ci := 6) (v := .int M.2.2.2.1) (C := RX6) (T := TX6) (N := 21) hx hb hts xu_X6 hown hK hP 0 rfl rfl 3 (by decide) (hts _ xw_510) (fun _ h9 => h9) rfl dX6_number_69 ?_
  refine lv_iconst (v := (1 : Int32)) hx hb dX6_number_72 (by decide) ?_
  refine lv_iadd hx hb dX6_number_73 ?_
  refine va_put (D := D) (ci := 6) (v := .int (M.2.2.2.1 + (1 : Int32))) (ty := .int) (C := RX6) (T := TX6) (N := 21) hx hb hts xu_X6 tyX6 tyX6_ok nmX6 hown hK hP hD hS 0 rfl rfl 3 (by decide) (hts _ xw_510) (fun _ h9 => h9) rfl (by decide +kernel) rfl rfl (Nat.le_of_ble_eq_true rfl) dX6_number_74 (fun H locs hP hD hS => ?_)
  have hP : va_P D vwCl (w6 aM K (M.1, M.2.1, M.2.2.1, (M.2.2.2.1 + (1 : Int32)), M.2.2.2.2.1, M.2.2.2.2.2.1, M.2.2.2.2.2.2.1, M.2.2.2.2.2.2.2.1, M.2.2.2.2.2.2.2.2.1, M.2.2.2.2.2.2.2.2.2.1, M.2.2.2.2.2.2.2.2.2.2.1, M.2.2.2.2.2.2.2.2.2.2.2.1, M.2.2.2.2.2.2.2.2.2.2.2.2.1, M.2.2.2.2.2.2.2.2.2.2.2.2.2.1, M.2.2.2.2.2.2.2.2.2.2.2.2.2.2.1, M.2.2.2.2.2.2.2.2.2.2.2.2.2.2.2.1, M.2.2.2.2.2.2.2.2.2.2.2.2.2.2.2.2.1, M.2.2.2.2.2.2.2.2.2.2.2.2.2.2.2.2.2.1, M.2.2.2.2.2.2.2.2.2.2.2.2.2.2.2.2.2.2.1, M.2.2.2.2.2.2.2.2.2.2.2.2.2.2.2.2.2.2.2.1, M.2.2.2.2.2.2.2.2.2.2.2.2.2.2.2.2.2.2.2.2)) H := hP
  have hD : va_D A (w6 aM K (M.1, M.2.1, M.2.2.1, (M.2.2.2.1 + (1 : Int32)), M.2.2.2.2.1, M.2.2.2.2.2.1, M.2.2.2.2.2.2.1, M.2.2.2.2.2.2.2.1, M.2.2.2.2.2.2.2.2.1, M.2.2.2.2.2.2.2.2.2.1, M.2.2.2.2.2.2.2.2.2.2.1, M.2.2.2.2.2.2.2.2.2.2.2.1, M.2.2.2.2.2.2.2.2.2.2.2.2.1, M.2.2.2.2.2.2.2.2.2.2.2.2.2.1, M.2.2.2.2.2.2.2.2.2.2.2.2.2.2.1, M.2.2.2.2.2.2.2.2.2.2.2.2.2.2.2.1, M.2.2.2.2.2.2.2.2.2.2.2.2.2.2.2.2.1, M.2.2.2.2.2.2.2.2.2.2.2.2.2.2.2.2.2.1, M.2.2.2.2.2.2.2.2.2.2.2.2.2.2.2.2.2.2.1, M.2.2.2.2.2.2.2.2.2.2.2.2.2.2.2.2.2.2.2.1, M.2.2.2.2.2.2.2.2.2.2.2.2.2.2.2.2.2.2.2.2)) := hD
  refine lv_iinc (v := (x3 + (1 : Int32))) (lv' := [(3, .int (x3 + (1 : Int32))), (2, .int t0), (0, .ref (aM 0)), (1, .int x1)]) hx hb dX6_number_77 hl (k := 3) rfl (by rfl) (by decide) rfl (fun ls hl => ?_)
  refine lv_goto (tgt := 33) hx hb dX6_number_80 (by decide) ?_
  exact hrec33 _ _ _ _ _ h _ _ _ hP hD hS (lv_sub hl [2, 3, 1, 0] rfl)
set_option maxHeartbeats 4000000 in
set_option maxRecDepth 100000 in
theorem kX6_number_33 {p : Program} {l : Launch} {e : Env} {s : State} {m : MethodId} {args : Array Value} {below : List Frame} {meth : Method} {c : Code} {D : va_G} {K : Nat → ClassId} {A : Nat → Prop} {aM : Nat → Nat} (C : xC p s m args meth c cX6_number 4 (some .int) yX6_number D K A []) : ∀ fu : Nat, ∀ (M : S6) (x1 : Int32) (x2 : Int32) (x3 : Int32) (r : Int32 × (S6)), fX6_number_33 fu M x1 x2 x3 = some r → ∀ (H : Heap) (locs : List Loc) (ls : Array Slot), va_P D vwCl (w6 aM K M) H → va_D A (w6 aM K M) → va_S A s.heap H locs → lv_has ls 4 [(0, .ref (aM 0)), (1, .int x1), (2, .int x2), (3, .int x3)] → W p l e (xR 0 0 (oX6_number aM K r)) s m args below meth c H locs 0 0 (xQ below args s D K A (oX6_number aM K r)) (F0 m 33 ls []) := by
  obtain ⟨hx, hb, hr, hml, hown, hK, hts, hA, hG, hlk, hte, hnm⟩ := id C
  intro fu
  induction fu with
  | zero =>
    intro M x1 x2 x3 r h
    exact nomatch (show (none : Option (Int32 × (S6))) = some r from h)
  | succ fu ih =>
    intro M x1 x2 x3 r h H locs ls hP hD hS hl
    replace h : (if x1 ≤ x3 then some (x2, M) else (if M.2.2.2.2.1 = 0 then (if M.2.2.2.1 < 0 ∨ 2000 ≤ (M.2.2.2.1).toNatClampNeg then none else (if (M.2.2.1 (M.2.2.2.1).toNatClampNeg) = 0 then fX6_number_66 (fX6_number_33 fu) M x1 x3 x2 else fX6_number_66 (fX6_number_33 fu) M x1 x3 (x2 ||| ((1 : Int32) <<< (x3 &&& 31))))) else some (x2, M))) = some r := h
    refine lv_iload_n hx hb dX6_number_33 rfl (lv_at hl 3 rfl) ?_
    refine lv_iload_n hx hb dX6_number_34 rfl (lv_at hl 1 rfl) ?_
    refine lv_icmp_ge (tgt := 83) hx hb dX6_number_35 (by decide) (fun c9 => ?_) (fun c9 => ?_)
    · replace h := xi_t c9 h
      refine lv_iload_n hx hb dX6_number_83 rfl (lv_at hl 2 rfl) ?_
      obtain rfl := Option.some.inj h
      exact xe_i C hP hD hS dX6_number_84
    · replace h := xi_f c9 h
      refine lv_aload_n hx hb dX6_number_38 rfl (lv_at hl 0 rfl) ?_
      refine va_get (D := D) (ci := 6) (v := .int M.2.2.2.2.1) (C := RX6) (T := TX6) (N := 21) hx hb hts xu_X6 hown hK hP 0 rfl rfl 4 (by decide) (hts _ xw_511) (fun _ h9 => h9) rfl dX6_number_39 ?_
      refine lv_if_ne (tgt := 83) hx hb dX6_number_42 (by decide) (fun c9 => ?_) (fun c9 => ?_)
      · replace h := xi_f c9 h
        refine lv_iload_n hx hb dX6_number_83 rfl (lv_at hl 2 rfl) ?_
        obtain rfl := Option.some.inj h
        exact xe_i C hP hD hS dX6_number_84
      · replace h := xi_t c9 h
        refine lv_aload_n hx hb dX6_number_45 rfl (lv_at hl 0 rfl) ?_
        refine va_get (D := D) (ci := 6) (v := .ref (aM 1)) (C := RX6) (T := TX6) (N := 21) hx hb hts xu_X6 hown hK hP 0 rfl rfl 2 (by decide) (hts _ xw_509) (fun _ h9 => h9) rfl dX6_number_46 ?_
        refine lv_aload_n hx hb dX6_number_49 rfl (lv_at hl 0 rfl) ?_
        refine va_get (D := D) (ci := 6) (v := .int M.2.2.2.1) (C := RX6) (T := TX6) (N := 21) hx hb hts xu_X6 hown hK hP 0 rfl rfl 3 (by decide) (hts _ xw_510) (fun _ h9 => h9) rfl dX6_number_50 ?_
        obtain ⟨hi9, h⟩ := xi_g h
        refine va_zald hx hb hK hP 1 1 rfl rfl hi9 dX6_number_53 ?_
        refine lv_if_eq (tgt := 65) hx hb dX6_number_54 (by decide) (fun c9 => ?_) (fun c9 => ?_)
        · replace h := xi_t c9 h
          refine lv_iload_n hx hb dX6_number_65 rfl (lv_at hl 2 rfl) ?_
          exact kX6_number_66 C _ ih _ _ _ _ _ h _ _ _ hP hD hS (lv_sub hl [0, 1, 3] rfl)
        · replace h := xi_f c9 h
          refine lv_iload_n hx hb dX6_number_57 rfl (lv_at hl 2 rfl) ?_
          refine lv_iconst (v := (1 : Int32)) hx hb dX6_number_58 (by decide) ?_
          refine lv_iload_n hx hb dX6_number_59 rfl (lv_at hl 3 rfl) ?_
          refine lv_ishl hx hb dX6_number_60 ?_
          refine lv_ior hx hb dX6_number_61 ?_
          refine lv_goto (tgt := 66) hx hb dX6_number_62 (by decide) ?_
          exact kX6_number_66 C _ ih _ _ _ _ _ h _ _ _ hP hD hS (lv_sub hl [0, 1, 3] rfl)
set_option maxHeartbeats 4000000 in
set_option maxRecDepth 100000 in
theorem kX6_number_26 {p : Program} {l : Launch} {e : Env} {s : State} {m : MethodId} {args : Array Value} {below : List Frame} {meth : Method} {c : Code} {D : va_G} {K : Nat → ClassId} {A : Nat → Prop} {aM : Nat → Nat} (C : xC p s m args meth c cX6_number 4 (some .int) yX6_number D K A []) : ∀ (M : S6) (x1 : Int32) (t1 : Int32) (r : Int32 × (S6)), fX6_number_26  M x1 t1 = some r → ∀ (H : Heap) (locs : List Loc) (ls : Array Slot), va_P D vwCl (w6 aM K M) H → va_D A (w6 aM K M) → va_S A s.heap H locs → lv_has ls 4 [(0, .ref (aM 0)), (1, .int x1)] → W p l e (xR 0 0 (oX6_number aM K r)) s m args below meth c H locs 0 0 (xQ below args s D K A (oX6_number aM K r)) (F0 m 26 ls [.int t1, .ref (aM 0)]) := by
  obtain ⟨hx, hb, hr, hml, hown, hK, hts, hA, hG, hlk, hte, hnm⟩ := id C
  intro M x1 t1 r h H locs ls hP hD hS hl
  replace h : (if t1 = 0 ∨ t1 = 1 then fX6_number_33 xF (M.1, M.2.1, M.2.2.1, M.2.2.2.1, t1, M.2.2.2.2.2.1, M.2.2.2.2.2.2.1, M.2.2.2.2.2.2.2.1, M.2.2.2.2.2.2.2.2.1, M.2.2.2.2.2.2.2.2.2.1, M.2.2.2.2.2.2.2.2.2.2.1, M.2.2.2.2.2.2.2.2.2.2.2.1, M.2.2.2.2.2.2.2.2.2.2.2.2.1, M.2.2.2.2.2.2.2.2.2.2.2.2.2.1, M.2.2.2.2.2.2.2.2.2.2.2.2.2.2.1, M.2.2.2.2.2.2.2.2.2.2.2.2.2.2.2.1, M.2.2.2.2.2.2.2.2.2.2.2.2.2.2.2.2.1, M.2.2.2.2.2.2.2.2.2.2.2.2.2.2.2.2.2.1, M.2.2.2.2.2.2.2.2.2.2.2.2.2.2.2.2.2.2.1, M.2.2.2.2.2.2.2.2.2.2.2.2.2.2.2.2.2.2.2.1, M.2.2.2.2.2.2.2.2.2.2.2.2.2.2.2.2.2.2.2.2) x1 (0 : Int32) (0 : Int32) else none) = some r := h
  obtain ⟨hz9, h⟩ := xi_b h
  refine va_put (D := D) (ci := 6) (v := .int t1) (ty := .boolean) (C := RX6) (T := TX6) (N := 21) hx hb hts xu_X6 tyX6 tyX6_ok nmX6 hown hK hP hD hS 0 rfl rfl 4 (by decide) (hts _ xw_511) (fun _ h9 => h9) rfl (by decide +kernel) hz9.1 hz9.2 (Nat.le_of_ble_eq_true rfl) dX6_number_26 (fun H locs hP hD hS => ?_)
  have hP : va_P D vwCl (w6 aM K (M.1, M.2.1, M.2.2.1, M.2.2.2.1, t1, M.2.2.2.2.2.1, M.2.2.2.2.2.2.1, M.2.2.2.2.2.2.2.1, M.2.2.2.2.2.2.2.2.1, M.2.2.2.2.2.2.2.2.2.1, M.2.2.2.2.2.2.2.2.2.2.1, M.2.2.2.2.2.2.2.2.2.2.2.1, M.2.2.2.2.2.2.2.2.2.2.2.2.1, M.2.2.2.2.2.2.2.2.2.2.2.2.2.1, M.2.2.2.2.2.2.2.2.2.2.2.2.2.2.1, M.2.2.2.2.2.2.2.2.2.2.2.2.2.2.2.1, M.2.2.2.2.2.2.2.2.2.2.2.2.2.2.2.2.1, M.2.2.2.2.2.2.2.2.2.2.2.2.2.2.2.2.2.1, M.2.2.2.2.2.2.2.2.2.2.2.2.2.2.2.2.2.2.1, M.2.2.2.2.2.2.2.2.2.2.2.2.2.2.2.2.2.2.2.1, M.2.2.2.2.2.2.2.2.2.2.2.2.2.2.2.2.2.2.2.2)) H := hP
  have hD : va_D A (w6 aM K (M.1, M.2.1, M.2.2.1, M.2.2.2.1, t1, M.2.2.2.2.2.1, M.2.2.2.2.2.2.1, M.2.2.2.2.2.2.2.1, M.2.2.2.2.2.2.2.2.1, M.2.2.2.2.2.2.2.2.2.1, M.2.2.2.2.2.2.2.2.2.2.1, M.2.2.2.2.2.2.2.2.2.2.2.1, M.2.2.2.2.2.2.2.2.2.2.2.2.1, M.2.2.2.2.2.2.2.2.2.2.2.2.2.1, M.2.2.2.2.2.2.2.2.2.2.2.2.2.2.1, M.2.2.2.2.2.2.2.2.2.2.2.2.2.2.2.1, M.2.2.2.2.2.2.2.2.2.2.2.2.2.2.2.2.1, M.2.2.2.2.2.2.2.2.2.2.2.2.2.2.2.2.2.1, M.2.2.2.2.2.2.2.2.2.2.2.2.2.2.2.2.2.2.1, M.2.2.2.2.2.2.2.2.2.2.2.2.2.2.2.2.2.2.2.1, M.2.2.2.2.2.2.2.2.2.2.2.2.2.2.2.2.2.2.2.2)) := hD
  refine lv_iconst (v := (0 : Int32)) hx hb dX6_number_29 (by decide) ?_
  refine lv_istore_n (lv' := [(2, .int (0 : Int32)), (0, .ref (aM 0)), (1, .int x1)]) hx hb dX6_number_30 rfl hl (by decide) rfl (fun ls hl => ?_)
  refine lv_iconst (v := (0 : Int32)) hx hb dX6_number_31 (by decide) ?_
  refine lv_istore_n (lv' := [(3, .int (0 : Int32)), (2, .int (0 : Int32)), (0, .ref (aM 0)), (1, .int x1)]) hx hb dX6_number_32 rfl hl (by decide) rfl (fun ls hl => ?_)
  exact kX6_number_33 C _ _ _ _ _ _ h _ _ _ hP hD hS (lv_sub hl [2, 3, 1, 0] rfl)
set_option maxHeartbeats 4000000 in
set_option maxRecDepth 100000 in
theorem mX6_number (l : Launch) (D : va_G) (K : Nat → ClassId) (aM : Nat → Nat) (sz : Nat) (M : S6) (p1 : Int32) (r : Int32 × (S6)) (h : fX6_number M p1 = some r) : xMet l yX6_number cX6_number 4 (some .int) 0 0 D K [.ref (aM 0), .int p1] sz (w6 aM K M) (oX6_number aM K r) := by
  refine xm_of _ (by decide +kernel) (Nat.le_of_ble_eq_true rfl) (fun p e s m args below meth c A C hP hD ls hl => ?_)
  have hl : lv_has ls 4 [(0, .ref (aM 0)), (1, .int p1)] := hl
  have hS : va_S A s.heap s.heap [] := va_S.rf
  obtain ⟨hx, hb, hr, hml, hown, hK, hts, hA, hG, hlk, hte, hnm⟩ := id C
  replace h : (if M.2.2.2.2.1 = 0 then (if (M.2.2.2.1 + p1) ≤ M.2.1 then fX6_number_26 M p1 (0 : Int32) else fX6_number_26 M p1 (1 : Int32)) else fX6_number_26 M p1 (1 : Int32)) = some r := h
  refine lv_aload_n hx hb dX6_number_0 rfl (lv_at hl 0 rfl) ?_
  refine lv_aload_n hx hb dX6_number_1 rfl (lv_at hl 0 rfl) ?_
  refine va_get (D := D) (ci := 6) (v := .int M.2.2.2.2.1) (C := RX6) (T := TX6) (N := 21) hx hb hts xu_X6 hown hK hP 0 rfl rfl 4 (by decide) (hts _ xw_511) (fun _ h9 => h9) rfl dX6_number_2 ?_
  refine lv_if_ne (tgt := 21) hx hb dX6_number_5 (by decide) (fun c9 => ?_) (fun c9 => ?_)
  · replace h := xi_f c9 h
    refine lv_iconst (v := (1 : Int32)) hx hb dX6_number_21 (by decide) ?_
    refine lv_goto (tgt := 26) hx hb dX6_number_22 (by decide) ?_
    exact kX6_number_26 C _ _ _ _ h _ _ _ hP hD hS (lv_sub hl [0, 1] rfl)
  · replace h := xi_t c9 h
    refine lv_aload_n hx hb dX6_number_8 rfl (lv_at hl 0 rfl) ?_
    refine va_get (D := D) (ci := 6) (v := .int M.2.2.2.1) (C := RX6) (T := TX6) (N := 21) hx hb hts xu_X6 hown hK hP 0 rfl rfl 3 (by decide) (hts _ xw_510) (fun _ h9 => h9) rfl dX6_number_9 ?_
    refine lv_iload_n hx hb dX6_number_12 rfl (lv_at hl 1 rfl) ?_
    refine lv_iadd hx hb dX6_number_13 ?_
    refine lv_aload_n hx hb dX6_number_14 rfl (lv_at hl 0 rfl) ?_
    refine va_get (D := D) (ci := 6) (v := .int M.2.1) (C := RX6) (T := TX6) (N := 21) hx hb hts xu_X6 hown hK hP 0 rfl rfl 1 (by decide) (hts _ xw_508) (fun _ h9 => h9) rfl dX6_number_15 ?_
    refine lv_icmp_le (tgt := 25) hx hb dX6_number_18 (by decide) (fun c9 => ?_) (fun c9 => ?_)
    · replace h := xi_t c9 h
      refine lv_iconst (v := (0 : Int32)) hx hb dX6_number_25 (by decide) ?_
      exact kX6_number_26 C _ _ _ _ h _ _ _ hP hD hS (lv_sub hl [0, 1] rfl)
    · replace h := xi_f c9 h
      refine lv_iconst (v := (1 : Int32)) hx hb dX6_number_21 (by decide) ?_
      refine lv_goto (tgt := 26) hx hb dX6_number_22 (by decide) ?_
      exact kX6_number_26 C _ _ _ _ h _ _ _ hP hD hS (lv_sub hl [0, 1] rfl)
abbrev oX6_widthOf (aM : Nat → Nat) (K : Nat → ClassId) (q : Int32 × (S6)) : xO := .inr ((some (.int q.1)), w6 aM K q.2)
def fX6_widthOf_2 : Nat → S6 → Int32 → Int32 → Option (Int32 × (S6))
  | 0 => fun _ _ _ => none
  | fu + 1 => fun M x1 x2 => (if x1 ≤ ((1 : Int32) <<< (x2 &&& 31)) then some (x2, M) else fX6_widthOf_2 fu M x1 (x2 + (1 : Int32)))
def fX6_widthOf (M : S6) (p1 : Int32) : Option (Int32 × (S6)) := fX6_widthOf_2 xF M p1 (0 : Int32)
set_option maxHeartbeats 4000000 in
set_option maxRecDepth 100000 in
theorem kX6_widthOf_2 {p : Program} {l : Launch} {e : Env} {s : State} {m : MethodId} {args : Array Value} {below : List Frame} {meth : Method} {c : Code} {D : va_G} {K : Nat → ClassId} {A : Nat → Prop} {aM : Nat → Nat} (C : xC p s m args meth c cX6_widthOf 3 (some .int) yX6_widthOf D K A []) : ∀ fu : Nat, ∀ (M : S6) (x1 : Int32) (x2 : Int32) (r : Int32 × (S6)), fX6_widthOf_2 fu M x1 x2 = some r → ∀ (H : Heap) (locs : List Loc) (ls : Array Slot), va_P D vwCl (w6 aM K M) H → va_D A (w6 aM K M) → va_S A s.heap H locs → lv_has ls 3 [(1, .int x1), (2, .int x2)] → W p l e (xR 0 0 (oX6_widthOf aM K r)) s m args below meth c H locs 0 0 (xQ below args s D K A (oX6_widthOf aM K r)) (F0 m 2 ls []) := by
  obtain ⟨hx, hb, hr, hml, hown, hK, hts, hA, hG, hlk, hte, hnm⟩ := id C
  intro fu
  induction fu with
  | zero =>
    intro M x1 x2 r h
    exact nomatch (show (none : Option (Int32 × (S6))) = some r from h)
  | succ fu ih =>
    intro M x1 x2 r h H locs ls hP hD hS hl
    replace h : (if x1 ≤ ((1 : Int32) <<< (x2 &&& 31)) then some (x2, M) else fX6_widthOf_2 fu M x1 (x2 + (1 : Int32))) = some r := h
    refine lv_iconst (v := (1 : Int32)) hx hb dX6_widthOf_2 (by decide) ?_
    refine lv_iload_n hx hb dX6_widthOf_3 rfl (lv_at hl 1 rfl) ?_
    refine lv_ishl hx hb dX6_widthOf_4 ?_
    refine lv_iload_n hx hb dX6_widthOf_5 rfl (lv_at hl 0 rfl) ?_
    refine lv_icmp_ge (tgt := 15) hx hb dX6_widthOf_6 (by decide) (fun c9 => ?_) (fun c9 => ?_)
    · replace h := xi_t c9 h
      refine lv_iload_n hx hb dX6_widthOf_15 rfl (lv_at hl 1 rfl) ?_
      obtain rfl := Option.some.inj h
      exact xe_i C hP hD hS dX6_widthOf_16
    · replace h := xi_f c9 h
      refine lv_iinc (v := (x2 + (1 : Int32))) (lv' := [(2, .int (x2 + (1 : Int32))), (1, .int x1)]) hx hb dX6_widthOf_9 hl (k := 1) rfl (by rfl) (by decide) rfl (fun ls hl => ?_)
      refine lv_goto (tgt := 2) hx hb dX6_widthOf_12 (by decide) ?_
      exact ih _ _ _ _ h _ _ _ hP hD hS (lv_sub hl [1, 0] rfl)
set_option maxHeartbeats 4000000 in
set_option maxRecDepth 100000 in
theorem mX6_widthOf (l : Launch) (D : va_G) (K : Nat → ClassId) (aM : Nat → Nat) (sz : Nat) (M : S6) (p1 : Int32) (r : Int32 × (S6)) (h : fX6_widthOf M p1 = some r) : xMet l yX6_widthOf cX6_widthOf 3 (some .int) 0 0 D K [.ref (aM 0), .int p1] sz (w6 aM K M) (oX6_widthOf aM K r) := by
  refine xm_of _ (by decide +kernel) (Nat.le_of_ble_eq_true rfl) (fun p e s m args below meth c A C hP hD ls hl => ?_)
  have hl : lv_has ls 3 [(0, .ref (aM 0)), (1, .int p1)] := hl
  have hS : va_S A s.heap s.heap [] := va_S.rf
  obtain ⟨hx, hb, hr, hml, hown, hK, hts, hA, hG, hlk, hte, hnm⟩ := id C
  replace h : fX6_widthOf_2 xF M p1 (0 : Int32) = some r := h
  refine lv_iconst (v := (0 : Int32)) hx hb dX6_widthOf_0 (by decide) ?_
  refine lv_istore_n (lv' := [(2, .int (0 : Int32)), (0, .ref (aM 0)), (1, .int p1)]) hx hb dX6_widthOf_1 rfl hl (by decide) rfl (fun ls hl => ?_)
  exact kX6_widthOf_2 C _ _ _ _ _ h _ _ _ hP hD hS (lv_sub hl [2, 0] rfl)
abbrev oX6_readSimple (aM : Nat → Nat) (K : Nat → ClassId) (q : Unit × (S6)) : xO := .inr (none, w6 aM K q.2)
def fX6_readSimple_236 (rec175 : S6 → Int32 → Int32 → Int32 → Int32 → Option (Unit × (S6))) (M : S6) (x1 : Int32) (x3 : Int32) (x4 : Int32) (x5 : Int32) (t0 : Int32) : Option (Unit × (S6)) := (if x5 < 0 ∨ 4 ≤ (x5).toNatClampNeg then none else (if (((32 : Int32) * x1) + (M.2.2.2.2.2.2.2.2.2.2.2.2.2.1 (x5).toNatClampNeg)) < 0 ∨ 224 ≤ ((((32 : Int32) * x1) + (M.2.2.2.2.2.2.2.2.2.2.2.2.2.1 (x5).toNatClampNeg))).toNatClampNeg then none else rec175 (M.1, M.2.1, M.2.2.1, M.2.2.2.1, M.2.2.2.2.1, M.2.2.2.2.2.1, M.2.2.2.2.2.2.1, M.2.2.2.2.2.2.2.1, M.2.2.2.2.2.2.2.2.1, M.2.2.2.2.2.2.2.2.2.1, M.2.2.2.2.2.2.2.2.2.2.1, (upd M.2.2.2.2.2.2.2.2.2.2.2.1 ((((32 : Int32) * x1) + (M.2.2.2.2.2.2.2.2.2.2.2.2.2.1 (x5).toNatClampNeg))).toNatClampNeg t0), M.2.2.2.2.2.2.2.2.2.2.2.2.1, M.2.2.2.2.2.2.2.2.2.2.2.2.2.1, M.2.2.2.2.2.2.2.2.2.2.2.2.2.2.1, M.2.2.2.2.2.2.2.2.2.2.2.2.2.2.2.1, M.2.2.2.2.2.2.2.2.2.2.2.2.2.2.2.2.1, M.2.2.2.2.2.2.2.2.2.2.2.2.2.2.2.2.2.1, M.2.2.2.2.2.2.2.2.2.2.2.2.2.2.2.2.2.2.1, M.2.2.2.2.2.2.2.2.2.2.2.2.2.2.2.2.2.2.2.1, M.2.2.2.2.2.2.2.2.2.2.2.2.2.2.2.2.2.2.2.2) x1 x3 x4 (x5 + (1 : Int32))))
def fX6_readSimple_175 : Nat → S6 → Int32 → Int32 → Int32 → Int32 → Option (Unit × (S6))
  | 0 => fun _ _ _ _ _ => none
  | fu + 1 => fun M x1 x3 x4 x5 => (if x3 ≤ x5 then some ((), M) else (if x3 ≤ (1 : Int32) then some ((), M) else (if x3 = (2 : Int32) then fX6_readSimple_236 (fX6_readSimple_175 fu) M x1 x3 x4 x5 (1 : Int32) else (if x3 = (3 : Int32) then (if x5 = 0 then fX6_readSimple_236 (fX6_readSimple_175 fu) M x1 x3 x4 x5 (1 : Int32) else fX6_readSimple_236 (fX6_readSimple_175 fu) M x1 x3 x4 x5 (2 : Int32)) else (if x4 = 0 then fX6_readSimple_236 (fX6_readSimple_175 fu) M x1 x3 x4 x5 (2 : Int32) else (if (2 : Int32) ≤ x5 then fX6_readSimple_236 (fX6_readSimple_175 fu) M x1 x3 x4 x5 (3 : Int32) else fX6_readSimple_236 (fX6_readSimple_175 fu) M x1 x3 x4 x5 (x5 + (1 : Int32))))))))
def fX6_readSimple_171 (M : S6) (x1 : Int32) (x3 : Int32) (x4 : Int32) (t1 : Int32) (t2 : Int32) : Option (Unit × (S6)) := (if t1 < 0 ∨ 7 ≤ (t1).toNatClampNeg then none else fX6_readSimple_175 xF (M.1, M.2.1, M.2.2.1, M.2.2.2.1, M.2.2.2.2.1, M.2.2.2.2.2.1, M.2.2.2.2.2.2.1, M.2.2.2.2.2.2.2.1, M.2.2.2.2.2.2.2.2.1, M.2.2.2.2.2.2.2.2.2.1, M.2.2.2.2.2.2.2.2.2.2.1, M.2.2.2.2.2.2.2.2.2.2.2.1, (upd M.2.2.2.2.2.2.2.2.2.2.2.2.1 (t1).toNatClampNeg t2), M.2.2.2.2.2.2.2.2.2.2.2.2.2.1, M.2.2.2.2.2.2.2.2.2.2.2.2.2.2.1, M.2.2.2.2.2.2.2.2.2.2.2.2.2.2.2.1, M.2.2.2.2.2.2.2.2.2.2.2.2.2.2.2.2.1, M.2.2.2.2.2.2.2.2.2.2.2.2.2.2.2.2.2.1, M.2.2.2.2.2.2.2.2.2.2.2.2.2.2.2.2.2.2.1, M.2.2.2.2.2.2.2.2.2.2.2.2.2.2.2.2.2.2.2.1, M.2.2.2.2.2.2.2.2.2.2.2.2.2.2.2.2.2.2.2.2) x1 x3 x4 (0 : Int32))
def fX6_readSimple_141 (M : S6) (x1 : Int32) (x3 : Int32) (t0 : Int32) : Option (Unit × (S6)) := (if M.2.2.2.2.1 = 0 then (if x3 = (1 : Int32) then (if (0 : Int32) < 0 ∨ 4 ≤ ((0 : Int32)).toNatClampNeg then none else fX6_readSimple_171 M x1 x3 t0 x1 (M.2.2.2.2.2.2.2.2.2.2.2.2.2.1 ((0 : Int32)).toNatClampNeg)) else fX6_readSimple_171 M x1 x3 t0 x1 (-1 : Int32)) else some ((), M))
def fX6_readSimple_140 (M : S6) (x1 : Int32) (x3 : Int32) : Option (Unit × (S6)) := fX6_readSimple_141 M x1 x3 (0 : Int32)
def fX6_readSimple_122 (M : S6) (x1 : Int32) (x3 : Int32) : Option (Unit × (S6)) := (if x3 = (4 : Int32) then xbnd0 (fX6_number M (1 : Int32)) (fun v_7 s_8 => (if v_7 = (1 : Int32) then fX6_readSimple_141 s_8 x1 x3 (1 : Int32) else fX6_readSimple_140 s_8 x1 x3)) else fX6_readSimple_140 M x1 x3)
def fX6_readSimple_107 (rec11 : S6 → Int32 → Int32 → Int32 → Int32 → Option (Unit × (S6))) (rec70 : S6 → Int32 → Int32 → Int32 → Int32 → Int32 → Option (Unit × (S6))) (M : S6) (x1 : Int32) (x2 : Int32) (x3 : Int32) (x4 : Int32) (x5 : Int32) (t1 : Int32) : Option (Unit × (S6)) := (if t1 = 0 ∨ t1 = 1 then rec70 (M.1, M.2.1, M.2.2.1, M.2.2.2.1, t1, M.2.2.2.2.2.1, M.2.2.2.2.2.2.1, M.2.2.2.2.2.2.2.1, M.2.2.2.2.2.2.2.2.1, M.2.2.2.2.2.2.2.2.2.1, M.2.2.2.2.2.2.2.2.2.2.1, M.2.2.2.2.2.2.2.2.2.2.2.1, M.2.2.2.2.2.2.2.2.2.2.2.2.1, M.2.2.2.2.2.2.2.2.2.2.2.2.2.1, M.2.2.2.2.2.2.2.2.2.2.2.2.2.2.1, M.2.2.2.2.2.2.2.2.2.2.2.2.2.2.2.1, M.2.2.2.2.2.2.2.2.2.2.2.2.2.2.2.2.1, M.2.2.2.2.2.2.2.2.2.2.2.2.2.2.2.2.2.1, M.2.2.2.2.2.2.2.2.2.2.2.2.2.2.2.2.2.2.1, M.2.2.2.2.2.2.2.2.2.2.2.2.2.2.2.2.2.2.2.1, M.2.2.2.2.2.2.2.2.2.2.2.2.2.2.2.2.2.2.2.2) x1 x2 x3 x4 (x5 + (1 : Int32)) else none)
def fX6_readSimple_70 (rec11 : S6 → Int32 → Int32 → Int32 → Int32 → Option (Unit × (S6))) : Nat → S6 → Int32 → Int32 → Int32 → Int32 → Int32 → Option (Unit × (S6))
  | 0 => fun _ _ _ _ _ _ => none
  | fu + 1 => fun M x1 x2 x3 x4 x5 => (if x4 ≤ x5 then rec11 M x1 x2 x3 (x4 + (1 : Int32)) else (if M.2.2.2.2.1 = 0 then (if x5 < 0 ∨ 4 ≤ (x5).toNatClampNeg then none else (if x4 < 0 ∨ 4 ≤ (x4).toNatClampNeg then none else (if (M.2.2.2.2.2.2.2.2.2.2.2.2.2.1 (x5).toNatClampNeg) = (M.2.2.2.2.2.2.2.2.2.2.2.2.2.1 (x4).toNatClampNeg) then fX6_readSimple_107 rec11 (fX6_readSimple_70 rec11 fu) M x1 x2 x3 x4 x5 (1 : Int32) else fX6_readSimple_107 rec11 (fX6_readSimple_70 rec11 fu) M x1 x2 x3 x4 x5 (0 : Int32)))) else fX6_readSimple_107 rec11 (fX6_readSimple_70 rec11 fu) M x1 x2 x3 x4 x5 (1 : Int32)))
def fX6_readSimple_64 (rec11 : S6 → Int32 → Int32 → Int32 → Int32 → Option (Unit × (S6))) (M : S6) (x1 : Int32) (x2 : Int32) (x3 : Int32) (x4 : Int32) (t1 : Int32) : Option (Unit × (S6)) := (if t1 = 0 ∨ t1 = 1 then fX6_readSimple_70 rec11 xF (M.1, M.2.1, M.2.2.1, M.2.2.2.1, t1, M.2.2.2.2.2.1, M.2.2.2.2.2.2.1, M.2.2.2.2.2.2.2.1, M.2.2.2.2.2.2.2.2.1, M.2.2.2.2.2.2.2.2.2.1, M.2.2.2.2.2.2.2.2.2.2.1, M.2.2.2.2.2.2.2.2.2.2.2.1, M.2.2.2.2.2.2.2.2.2.2.2.2.1, M.2.2.2.2.2.2.2.2.2.2.2.2.2.1, M.2.2.2.2.2.2.2.2.2.2.2.2.2.2.1, M.2.2.2.2.2.2.2.2.2.2.2.2.2.2.2.1, M.2.2.2.2.2.2.2.2.2.2.2.2.2.2.2.2.1, M.2.2.2.2.2.2.2.2.2.2.2.2.2.2.2.2.2.1, M.2.2.2.2.2.2.2.2.2.2.2.2.2.2.2.2.2.2.1, M.2.2.2.2.2.2.2.2.2.2.2.2.2.2.2.2.2.2.2.1, M.2.2.2.2.2.2.2.2.2.2.2.2.2.2.2.2.2.2.2.2) x1 x2 x3 x4 (0 : Int32) else none)
def fX6_readSimple_11 : Nat → S6 → Int32 → Int32 → Int32 → Int32 → Option (Unit × (S6))
  | 0 => fun _ _ _ _ _ => none
  | fu + 1 => fun M x1 x2 x3 x4 => (if x3 ≤ x4 then fX6_readSimple_122 M x1 x3 else (if M.2.2.2.2.1 = 0 then xbnd0 (fX6_widthOf M x2) (fun v_3 s_4 => xbnd0 (fX6_number s_4 v_3) (fun v_5 s_6 => (if x4 < 0 ∨ 4 ≤ (x4).toNatClampNeg then none else (if s_6.2.2.2.2.1 = 0 then (if x4 < 0 ∨ 4 ≤ (x4).toNatClampNeg then none else (if ((upd s_6.2.2.2.2.2.2.2.2.2.2.2.2.2.1 (x4).toNatClampNeg v_5) (x4).toNatClampNeg) < x2 then fX6_readSimple_64 (fX6_readSimple_11 fu) (s_6.1, s_6.2.1, s_6.2.2.1, s_6.2.2.2.1, s_6.2.2.2.2.1, s_6.2.2.2.2.2.1, s_6.2.2.2.2.2.2.1, s_6.2.2.2.2.2.2.2.1, s_6.2.2.2.2.2.2.2.2.1, s_6.2.2.2.2.2.2.2.2.2.1, s_6.2.2.2.2.2.2.2.2.2.2.1, s_6.2.2.2.2.2.2.2.2.2.2.2.1, s_6.2.2.2.2.2.2.2.2.2.2.2.2.1, (upd s_6.2.2.2.2.2.2.2.2.2.2.2.2.2.1 (x4).toNatClampNeg v_5), s_6.2.2.2.2.2.2.2.2.2.2.2.2.2.2.1, s_6.2.2.2.2.2.2.2.2.2.2.2.2.2.2.2.1, s_6.2.2.2.2.2.2.2.2.2.2.2.2.2.2.2.2.1, s_6.2.2.2.2.2.2.2.2.2.2.2.2.2.2.2.2.2.1, s_6.2.2.2.2.2.2.2.2.2.2.2.2.2.2.2.2.2.2.1, s_6.2.2.2.2.2.2.2.2.2.2.2.2.2.2.2.2.2.2.2.1, s_6.2.2.2.2.2.2.2.2.2.2.2.2.2.2.2.2.2.2.2.2) x1 x2 x3 x4 (0 : Int32) else fX6_readSimple_64 (fX6_readSimple_11 fu) (s_6.1, s_6.2.1, s_6.2.2.1, s_6.2.2.2.1, s_6.2.2.2.2.1, s_6.2.2.2.2.2.1, s_6.2.2.2.2.2.2.1, s_6.2.2.2.2.2.2.2.1, s_6.2.2.2.2.2.2.2.2.1, s_6.2.2.2.2.2.2.2.2.2.1, s_6.2.2.2.2.2.2.2.2.2.2.1, s_6.2.2.2.2.2.2.2.2.2.2.2.1, s_6.2.2.2.2.2.2.2.2.2.2.2.2.1, (upd s_6.2.2.2.2.2.2.2.2.2.2.2.2.2.1 (x4).toNatClampNeg v_5), s_6.2.2.2.2.2.2.2.2.2.2.2.2.2.2.1, s_6.2.2.2.2.2.2.2.2.2.2.2.2.2.2.2.1, s_6.2.2.2.2.2.2.2.2.2.2.2.2.2.2.2.2.1, s_6.2.2.2.2.2.2.2.2.2.2.2.2.2.2.2.2.2.1, s_6.2.2.2.2.2.2.2.2.2.2.2.2.2.2.2.2.2.2.1, s_6.2.2.2.2.2.2.2.2.2.2.2.2.2.2.2.2.2.2.2.1, s_6.2.2.2.2.2.2.2.2.2.2.2.2.2.2.2.2.2.2.2.2) x1 x2 x3 x4 (1 : Int32))) else fX6_readSimple_64 (fX6_readSimple_11 fu) (s_6.1, s_6.2.1, s_6.2.2.1, s_6.2.2.2.1, s_6.2.2.2.2.1, s_6.2.2.2.2.2.1, s_6.2.2.2.2.2.2.1, s_6.2.2.2.2.2.2.2.1, s_6.2.2.2.2.2.2.2.2.1, s_6.2.2.2.2.2.2.2.2.2.1, s_6.2.2.2.2.2.2.2.2.2.2.1, s_6.2.2.2.2.2.2.2.2.2.2.2.1, s_6.2.2.2.2.2.2.2.2.2.2.2.2.1, (upd s_6.2.2.2.2.2.2.2.2.2.2.2.2.2.1 (x4).toNatClampNeg v_5), s_6.2.2.2.2.2.2.2.2.2.2.2.2.2.2.1, s_6.2.2.2.2.2.2.2.2.2.2.2.2.2.2.2.1, s_6.2.2.2.2.2.2.2.2.2.2.2.2.2.2.2.2.1, s_6.2.2.2.2.2.2.2.2.2.2.2.2.2.2.2.2.2.1, s_6.2.2.2.2.2.2.2.2.2.2.2.2.2.2.2.2.2.2.1, s_6.2.2.2.2.2.2.2.2.2.2.2.2.2.2.2.2.2.2.2.1, s_6.2.2.2.2.2.2.2.2.2.2.2.2.2.2.2.2.2.2.2.2) x1 x2 x3 x4 (1 : Int32))))) else fX6_readSimple_122 M x1 x3))
def fX6_readSimple (M : S6) (p1 : Int32) (p2 : Int32) : Option (Unit × (S6)) := xbnd0 (fX6_number M (2 : Int32)) (fun v_1 s_2 => fX6_readSimple_11 xF s_2 p1 p2 (v_1 + (1 : Int32)) (0 : Int32))
set_option maxHeartbeats 4000000 in
set_option maxRecDepth 100000 in
theorem kX6_readSimple_236 {p : Program} {l : Launch} {e : Env} {s : State} {m : MethodId} {args : Array Value} {below : List Frame} {meth : Method} {c : Code} {D : va_G} {K : Nat → ClassId} {A : Nat → Prop} {aM : Nat → Nat} (C : xC p s m args meth c cX6_readSimple 7 none yX6_readSimple D K A []) (rec175 : S6 → Int32 → Int32 → Int32 → Int32 → Option (Unit × (S6))) (hrec175 : ∀ (M : S6) (x1 : Int32) (x3 : Int32) (x4 : Int32) (x5 : Int32) (r : Unit × (S6)), rec175 M x1 x3 x4 x5 = some r → ∀ (H : Heap) (locs : List Loc) (ls : Array Slot), va_P D vwCl (w6 aM K M) H → va_D A (w6 aM K M) → va_S A s.heap H locs → lv_has ls 7 [(0, .ref (aM 0)), (1, .int x1), (3, .int x3), (4, .int x4), (5, .int x5)] → W p l e (xR 1 23 (oX6_readSimple aM K r)) s m args below meth c H locs 0 0 (xQ below args s D K A (oX6_readSimple aM K r)) (F0 m 175 ls [])) : ∀ (M : S6) (x1 : Int32) (x3 : Int32) (x4 : Int32) (x5 : Int32) (t0 : Int32) (r : Unit × (S6)), fX6_readSimple_236  rec175 M x1 x3 x4 x5 t0 = some r → ∀ (H : Heap) (locs : List Loc) (ls : Array Slot), va_P D vwCl (w6 aM K M) H → va_D A (w6 aM K M) → va_S A s.heap H locs → lv_has ls 7 [(0, .ref (aM 0)), (1, .int x1), (3, .int x3), (4, .int x4), (5, .int x5)] → W p l e (xR 1 23 (oX6_readSimple aM K r)) s m args below meth c H locs 0 0 (xQ below args s D K A (oX6_readSimple aM K r)) (F0 m 236 ls [.int t0]) := by
  obtain ⟨hx, hb, hr, hml, hown, hK, hts, hA, hG, hlk, hte, hnm⟩ := id C
  intro M x1 x3 x4 x5 t0 r h H locs ls hP hD hS hl
  replace h : (if x5 < 0 ∨ 4 ≤ (x5).toNatClampNeg then none else (if (((32 : Int32) * x1) + (M.2.2.2.2.2.2.2.2.2.2.2.2.2.1 (x5).toNatClampNeg)) < 0 ∨ 224 ≤ ((((32 : Int32) * x1) + (M.2.2.2.2.2.2.2.2.2.2.2.2.2.1 (x5).toNatClampNeg))).toNatClampNeg then none else rec175 (M.1, M.2.1, M.2.2.1, M.2.2.2.1, M.2.2.2.2.1, M.2.2.2.2.2.1, M.2.2.2.2.2.2.1, M.2.2.2.2.2.2.2.1, M.2.2.2.2.2.2.2.2.1, M.2.2.2.2.2.2.2.2.2.1, M.2.2.2.2.2.2.2.2.2.2.1, (upd M.2.2.2.2.2.2.2.2.2.2.2.1 ((((32 : Int32) * x1) + (M.2.2.2.2.2.2.2.2.2.2.2.2.2.1 (x5).toNatClampNeg))).toNatClampNeg t0), M.2.2.2.2.2.2.2.2.2.2.2.2.1, M.2.2.2.2.2.2.2.2.2.2.2.2.2.1, M.2.2.2.2.2.2.2.2.2.2.2.2.2.2.1, M.2.2.2.2.2.2.2.2.2.2.2.2.2.2.2.1, M.2.2.2.2.2.2.2.2.2.2.2.2.2.2.2.2.1, M.2.2.2.2.2.2.2.2.2.2.2.2.2.2.2.2.2.1, M.2.2.2.2.2.2.2.2.2.2.2.2.2.2.2.2.2.2.1, M.2.2.2.2.2.2.2.2.2.2.2.2.2.2.2.2.2.2.2.1, M.2.2.2.2.2.2.2.2.2.2.2.2.2.2.2.2.2.2.2.2) x1 x3 x4 (x5 + (1 : Int32)))) = some r := h
  refine lv_istore (lv' := [(6, .int t0), (0, .ref (aM 0)), (1, .int x1), (3, .int x3), (4, .int x4), (5, .int x5)]) hx hb dX6_readSimple_236 hl (by decide) rfl (fun ls hl => ?_)
  refine lv_aload_n hx hb dX6_readSimple_238 rfl (lv_at hl 1 rfl) ?_
  refine va_get (D := D) (ci := 6) (v := .ref (aM 6)) (C := RX6) (T := TX6) (N := 21) hx hb hts xu_X6 hown hK hP 0 rfl rfl 11 (by decide) (hts _ xw_518) (fun _ h9 => h9) rfl dX6_readSimple_239 ?_
  refine lv_bipush (v := (32 : Int32)) hx hb dX6_readSimple_242 (by decide) ?_
  refine lv_iload_n hx hb dX6_readSimple_244 rfl (lv_at hl 2 rfl) ?_
  refine lv_imul hx hb dX6_readSimple_245 ?_
  refine lv_aload_n hx hb dX6_readSimple_246 rfl (lv_at hl 1 rfl) ?_
  refine va_get (D := D) (ci := 6) (v := .ref (aM 8)) (C := RX6) (T := TX6) (N := 21) hx hb hts xu_X6 hown hK hP 0 rfl rfl 13 (by decide) (hts _ xw_520) (fun _ h9 => h9) rfl dX6_readSimple_247 ?_
  refine lv_iload hx hb dX6_readSimple_250 (lv_at hl 5 rfl) ?_
  obtain ⟨hi9, h⟩ := xi_g h
  refine va_iald hx hb hK hP 8 0 rfl rfl hi9 dX6_readSimple_252 ?_
  refine lv_iadd hx hb dX6_readSimple_253 ?_
  refine lv_iload hx hb dX6_readSimple_254 (lv_at hl 0 rfl) ?_
  obtain ⟨hi9, h⟩ := xi_g h
  refine va_iast hx hb hK hP hD hS 6 0 rfl rfl hi9 dX6_readSimple_256 (fun H locs hP hD hS => ?_)
  have hP : va_P D vwCl (w6 aM K (M.1, M.2.1, M.2.2.1, M.2.2.2.1, M.2.2.2.2.1, M.2.2.2.2.2.1, M.2.2.2.2.2.2.1, M.2.2.2.2.2.2.2.1, M.2.2.2.2.2.2.2.2.1, M.2.2.2.2.2.2.2.2.2.1, M.2.2.2.2.2.2.2.2.2.2.1, (upd M.2.2.2.2.2.2.2.2.2.2.2.1 ((((32 : Int32) * x1) + (M.2.2.2.2.2.2.2.2.2.2.2.2.2.1 (x5).toNatClampNeg))).toNatClampNeg t0), M.2.2.2.2.2.2.2.2.2.2.2.2.1, M.2.2.2.2.2.2.2.2.2.2.2.2.2.1, M.2.2.2.2.2.2.2.2.2.2.2.2.2.2.1, M.2.2.2.2.2.2.2.2.2.2.2.2.2.2.2.1, M.2.2.2.2.2.2.2.2.2.2.2.2.2.2.2.2.1, M.2.2.2.2.2.2.2.2.2.2.2.2.2.2.2.2.2.1, M.2.2.2.2.2.2.2.2.2.2.2.2.2.2.2.2.2.2.1, M.2.2.2.2.2.2.2.2.2.2.2.2.2.2.2.2.2.2.2.1, M.2.2.2.2.2.2.2.2.2.2.2.2.2.2.2.2.2.2.2.2)) H := hP
  have hD : va_D A (w6 aM K (M.1, M.2.1, M.2.2.1, M.2.2.2.1, M.2.2.2.2.1, M.2.2.2.2.2.1, M.2.2.2.2.2.2.1, M.2.2.2.2.2.2.2.1, M.2.2.2.2.2.2.2.2.1, M.2.2.2.2.2.2.2.2.2.1, M.2.2.2.2.2.2.2.2.2.2.1, (upd M.2.2.2.2.2.2.2.2.2.2.2.1 ((((32 : Int32) * x1) + (M.2.2.2.2.2.2.2.2.2.2.2.2.2.1 (x5).toNatClampNeg))).toNatClampNeg t0), M.2.2.2.2.2.2.2.2.2.2.2.2.1, M.2.2.2.2.2.2.2.2.2.2.2.2.2.1, M.2.2.2.2.2.2.2.2.2.2.2.2.2.2.1, M.2.2.2.2.2.2.2.2.2.2.2.2.2.2.2.1, M.2.2.2.2.2.2.2.2.2.2.2.2.2.2.2.2.1, M.2.2.2.2.2.2.2.2.2.2.2.2.2.2.2.2.2.1, M.2.2.2.2.2.2.2.2.2.2.2.2.2.2.2.2.2.2.1, M.2.2.2.2.2.2.2.2.2.2.2.2.2.2.2.2.2.2.2.1, M.2.2.2.2.2.2.2.2.2.2.2.2.2.2.2.2.2.2.2.2)) := hD
  refine lv_iinc (v := (x5 + (1 : Int32))) (lv' := [(5, .int (x5 + (1 : Int32))), (6, .int t0), (0, .ref (aM 0)), (1, .int x1), (3, .int x3), (4, .int x4)]) hx hb dX6_readSimple_257 hl (k := 5) rfl (by rfl) (by decide) rfl (fun ls hl => ?_)
  refine lv_goto (tgt := 175) hx hb dX6_readSimple_260 (by decide) ?_
  exact hrec175 _ _ _ _ _ _ h _ _ _ hP hD hS (lv_sub hl [2, 3, 4, 5, 0] rfl)
set_option maxHeartbeats 4000000 in
set_option maxRecDepth 100000 in
theorem kX6_readSimple_175 {p : Program} {l : Launch} {e : Env} {s : State} {m : MethodId} {args : Array Value} {below : List Frame} {meth : Method} {c : Code} {D : va_G} {K : Nat → ClassId} {A : Nat → Prop} {aM : Nat → Nat} (C : xC p s m args meth c cX6_readSimple 7 none yX6_readSimple D K A []) : ∀ fu : Nat, ∀ (M : S6) (x1 : Int32) (x3 : Int32) (x4 : Int32) (x5 : Int32) (r : Unit × (S6)), fX6_readSimple_175 fu M x1 x3 x4 x5 = some r → ∀ (H : Heap) (locs : List Loc) (ls : Array Slot), va_P D vwCl (w6 aM K M) H → va_D A (w6 aM K M) → va_S A s.heap H locs → lv_has ls 7 [(0, .ref (aM 0)), (1, .int x1), (3, .int x3), (4, .int x4), (5, .int x5)] → W p l e (xR 1 23 (oX6_readSimple aM K r)) s m args below meth c H locs 0 0 (xQ below args s D K A (oX6_readSimple aM K r)) (F0 m 175 ls []) := by
  obtain ⟨hx, hb, hr, hml, hown, hK, hts, hA, hG, hlk, hte, hnm⟩ := id C
  intro fu
  induction fu with
  | zero =>
    intro M x1 x3 x4 x5 r h
    exact nomatch (show (none : Option (Unit × (S6))) = some r from h)
  | succ fu ih =>
    intro M x1 x3 x4 x5 r h H locs ls hP hD hS hl
    replace h : (if x3 ≤ x5 then some ((), M) else (if x3 ≤ (1 : Int32) then some ((), M) else (if x3 = (2 : Int32) then fX6_readSimple_236 (fX6_readSimple_175 fu) M x1 x3 x4 x5 (1 : Int32) else (if x3 = (3 : Int32) then (if x5 = 0 then fX6_readSimple_236 (fX6_readSimple_175 fu) M x1 x3 x4 x5 (1 : Int32) else fX6_readSimple_236 (fX6_readSimple_175 fu) M x1 x3 x4 x5 (2 : Int32)) else (if x4 = 0 then fX6_readSimple_236 (fX6_readSimple_175 fu) M x1 x3 x4 x5 (2 : Int32) else (if (2 : Int32) ≤ x5 then fX6_readSimple_236 (fX6_readSimple_175 fu) M x1 x3 x4 x5 (3 : Int32) else fX6_readSimple_236 (fX6_readSimple_175 fu) M x1 x3 x4 x5 (x5 + (1 : Int32)))))))) = some r := h
    refine lv_iload hx hb dX6_readSimple_175 (lv_at hl 4 rfl) ?_
    refine lv_iload_n hx hb dX6_readSimple_177 rfl (lv_at hl 2 rfl) ?_
    refine lv_icmp_ge (tgt := 263) hx hb dX6_readSimple_178 (by decide) (fun c9 => ?_) (fun c9 => ?_)
    · replace h := xi_t c9 h
      obtain rfl := Option.some.inj h
      exact xe_v C hP hD hS dX6_readSimple_263
    · replace h := xi_f c9 h
      refine lv_iload_n hx hb dX6_readSimple_181 rfl (lv_at hl 2 rfl) ?_
      refine lv_iconst (v := (1 : Int32)) hx hb dX6_readSimple_182 (by decide) ?_
      refine lv_icmp_le (tgt := 263) hx hb dX6_readSimple_183 (by decide) (fun c9 => ?_) (fun c9 => ?_)
      · replace h := xi_t c9 h
        obtain rfl := Option.some.inj h
        exact xe_v C hP hD hS dX6_readSimple_263
      · replace h := xi_f c9 h
        refine lv_iload_n hx hb dX6_readSimple_186 rfl (lv_at hl 2 rfl) ?_
        refine lv_iconst (v := (2 : Int32)) hx hb dX6_readSimple_187 (by decide) ?_
        refine lv_icmp_ne (tgt := 195) hx hb dX6_readSimple_188 (by decide) (fun c9 => ?_) (fun c9 => ?_)
        · replace h := xi_f c9 h
          refine lv_iload_n hx hb dX6_readSimple_195 rfl (lv_at hl 2 rfl) ?_
          refine lv_iconst (v := (3 : Int32)) hx hb dX6_readSimple_196 (by decide) ?_
          refine lv_icmp_ne (tgt := 213) hx hb dX6_readSimple_197 (by decide) (fun c9 => ?_) (fun c9 => ?_)
          · replace h := xi_f c9 h
            refine lv_iload hx hb dX6_readSimple_213 (lv_at hl 3 rfl) ?_
            refine lv_if_ne (tgt := 222) hx hb dX6_readSimple_215 (by decide) (fun c9 => ?_) (fun c9 => ?_)
            · replace h := xi_f c9 h
              refine lv_iload hx hb dX6_readSimple_222 (lv_at hl 4 rfl) ?_
              refine lv_iconst (v := (2 : Int32)) hx hb dX6_readSimple_224 (by decide) ?_
              refine lv_icmp_ge (tgt := 235) hx hb dX6_readSimple_225 (by decide) (fun c9 => ?_) (fun c9 => ?_)
              · replace h := xi_t c9 h
                refine lv_iconst (v := (3 : Int32)) hx hb dX6_readSimple_235 (by decide) ?_
                exact kX6_readSimple_236 C _ ih _ _ _ _ _ _ _ h _ _ _ hP hD hS (lv_sub hl [0, 1, 2, 3, 4] rfl)
              · replace h := xi_f c9 h
                refine lv_iload hx hb dX6_readSimple_228 (lv_at hl 4 rfl) ?_
                refine lv_iconst (v := (1 : Int32)) hx hb dX6_readSimple_230 (by decide) ?_
                refine lv_iadd hx hb dX6_readSimple_231 ?_
                refine lv_goto (tgt := 236) hx hb dX6_readSimple_232 (by decide) ?_
                exact kX6_readSimple_236 C _ ih _ _ _ _ _ _ _ h _ _ _ hP hD hS (lv_sub hl [0, 1, 2, 3, 4] rfl)
            · replace h := xi_t c9 h
              refine lv_iconst (v := (2 : Int32)) hx hb dX6_readSimple_218 (by decide) ?_
              refine lv_goto (tgt := 236) hx hb dX6_readSimple_219 (by decide) ?_
              exact kX6_readSimple_236 C _ ih _ _ _ _ _ _ _ h _ _ _ hP hD hS (lv_sub hl [0, 1, 2, 3, 4] rfl)
          · replace h := xi_t c9 h
            refine lv_iload hx hb dX6_readSimple_200 (lv_at hl 4 rfl) ?_
            refine lv_if_ne (tgt := 209) hx hb dX6_readSimple_202 (by decide) (fun c9 => ?_) (fun c9 => ?_)
            · replace h := xi_f c9 h
              refine lv_iconst (v := (2 : Int32)) hx hb dX6_readSimple_209 (by decide) ?_
              refine lv_goto (tgt := 236) hx hb dX6_readSimple_210 (by decide) ?_
              exact kX6_readSimple_236 C _ ih _ _ _ _ _ _ _ h _ _ _ hP hD hS (lv_sub hl [0, 1, 2, 3, 4] rfl)
            · replace h := xi_t c9 h
              refine lv_iconst (v := (1 : Int32)) hx hb dX6_readSimple_205 (by decide) ?_
              refine lv_goto (tgt := 236) hx hb dX6_readSimple_206 (by decide) ?_
              exact kX6_readSimple_236 C _ ih _ _ _ _ _ _ _ h _ _ _ hP hD hS (lv_sub hl [0, 1, 2, 3, 4] rfl)
        · replace h := xi_t c9 h
          refine lv_iconst (v := (1 : Int32)) hx hb dX6_readSimple_191 (by decide) ?_
          refine lv_goto (tgt := 236) hx hb dX6_readSimple_192 (by decide) ?_
          exact kX6_readSimple_236 C _ ih _ _ _ _ _ _ _ h _ _ _ hP hD hS (lv_sub hl [0, 1, 2, 3, 4] rfl)
set_option maxHeartbeats 4000000 in
set_option maxRecDepth 100000 in
theorem kX6_readSimple_171 {p : Program} {l : Launch} {e : Env} {s : State} {m : MethodId} {args : Array Value} {below : List Frame} {meth : Method} {c : Code} {D : va_G} {K : Nat → ClassId} {A : Nat → Prop} {aM : Nat → Nat} (C : xC p s m args meth c cX6_readSimple 7 none yX6_readSimple D K A []) : ∀ (M : S6) (x1 : Int32) (x3 : Int32) (x4 : Int32) (t1 : Int32) (t2 : Int32) (r : Unit × (S6)), fX6_readSimple_171  M x1 x3 x4 t1 t2 = some r → ∀ (H : Heap) (locs : List Loc) (ls : Array Slot), va_P D vwCl (w6 aM K M) H → va_D A (w6 aM K M) → va_S A s.heap H locs → lv_has ls 7 [(0, .ref (aM 0)), (1, .int x1), (3, .int x3), (4, .int x4)] → W p l e (xR 1 23 (oX6_readSimple aM K r)) s m args below meth c H locs 0 0 (xQ below args s D K A (oX6_readSimple aM K r)) (F0 m 171 ls [.int t2, .int t1, .ref (aM 7)]) := by
  obtain ⟨hx, hb, hr, hml, hown, hK, hts, hA, hG, hlk, hte, hnm⟩ := id C
  intro M x1 x3 x4 t1 t2 r h H locs ls hP hD hS hl
  replace h : (if t1 < 0 ∨ 7 ≤ (t1).toNatClampNeg then none else fX6_readSimple_175 xF (M.1, M.2.1, M.2.2.1, M.2.2.2.1, M.2.2.2.2.1, M.2.2.2.2.2.1, M.2.2.2.2.2.2.1, M.2.2.2.2.2.2.2.1, M.2.2.2.2.2.2.2.2.1, M.2.2.2.2.2.2.2.2.2.1, M.2.2.2.2.2.2.2.2.2.2.1, M.2.2.2.2.2.2.2.2.2.2.2.1, (upd M.2.2.2.2.2.2.2.2.2.2.2.2.1 (t1).toNatClampNeg t2), M.2.2.2.2.2.2.2.2.2.2.2.2.2.1, M.2.2.2.2.2.2.2.2.2.2.2.2.2.2.1, M.2.2.2.2.2.2.2.2.2.2.2.2.2.2.2.1, M.2.2.2.2.2.2.2.2.2.2.2.2.2.2.2.2.1, M.2.2.2.2.2.2.2.2.2.2.2.2.2.2.2.2.2.1, M.2.2.2.2.2.2.2.2.2.2.2.2.2.2.2.2.2.2.1, M.2.2.2.2.2.2.2.2.2.2.2.2.2.2.2.2.2.2.2.1, M.2.2.2.2.2.2.2.2.2.2.2.2.2.2.2.2.2.2.2.2) x1 x3 x4 (0 : Int32)) = some r := h
  obtain ⟨hi9, h⟩ := xi_g h
  refine va_iast hx hb hK hP hD hS 7 0 rfl rfl hi9 dX6_readSimple_171 (fun H locs hP hD hS => ?_)
  have hP : va_P D vwCl (w6 aM K (M.1, M.2.1, M.2.2.1, M.2.2.2.1, M.2.2.2.2.1, M.2.2.2.2.2.1, M.2.2.2.2.2.2.1, M.2.2.2.2.2.2.2.1, M.2.2.2.2.2.2.2.2.1, M.2.2.2.2.2.2.2.2.2.1, M.2.2.2.2.2.2.2.2.2.2.1, M.2.2.2.2.2.2.2.2.2.2.2.1, (upd M.2.2.2.2.2.2.2.2.2.2.2.2.1 (t1).toNatClampNeg t2), M.2.2.2.2.2.2.2.2.2.2.2.2.2.1, M.2.2.2.2.2.2.2.2.2.2.2.2.2.2.1, M.2.2.2.2.2.2.2.2.2.2.2.2.2.2.2.1, M.2.2.2.2.2.2.2.2.2.2.2.2.2.2.2.2.1, M.2.2.2.2.2.2.2.2.2.2.2.2.2.2.2.2.2.1, M.2.2.2.2.2.2.2.2.2.2.2.2.2.2.2.2.2.2.1, M.2.2.2.2.2.2.2.2.2.2.2.2.2.2.2.2.2.2.2.1, M.2.2.2.2.2.2.2.2.2.2.2.2.2.2.2.2.2.2.2.2)) H := hP
  have hD : va_D A (w6 aM K (M.1, M.2.1, M.2.2.1, M.2.2.2.1, M.2.2.2.2.1, M.2.2.2.2.2.1, M.2.2.2.2.2.2.1, M.2.2.2.2.2.2.2.1, M.2.2.2.2.2.2.2.2.1, M.2.2.2.2.2.2.2.2.2.1, M.2.2.2.2.2.2.2.2.2.2.1, M.2.2.2.2.2.2.2.2.2.2.2.1, (upd M.2.2.2.2.2.2.2.2.2.2.2.2.1 (t1).toNatClampNeg t2), M.2.2.2.2.2.2.2.2.2.2.2.2.2.1, M.2.2.2.2.2.2.2.2.2.2.2.2.2.2.1, M.2.2.2.2.2.2.2.2.2.2.2.2.2.2.2.1, M.2.2.2.2.2.2.2.2.2.2.2.2.2.2.2.2.1, M.2.2.2.2.2.2.2.2.2.2.2.2.2.2.2.2.2.1, M.2.2.2.2.2.2.2.2.2.2.2.2.2.2.2.2.2.2.1, M.2.2.2.2.2.2.2.2.2.2.2.2.2.2.2.2.2.2.2.1, M.2.2.2.2.2.2.2.2.2.2.2.2.2.2.2.2.2.2.2.2)) := hD
  refine lv_iconst (v := (0 : Int32)) hx hb dX6_readSimple_172 (by decide) ?_
  refine lv_istore (lv' := [(5, .int (0 : Int32)), (0, .ref (aM 0)), (1, .int x1), (3, .int x3), (4, .int x4)]) hx hb dX6_readSimple_173 hl (by decide) rfl (fun ls hl => ?_)
  exact kX6_readSimple_175 C _ _ _ _ _ _ _ h _ _ _ hP hD hS (lv_sub hl [1, 2, 3, 4, 0] rfl)
set_option maxHeartbeats 4000000 in
set_option maxRecDepth 100000 in
theorem kX6_readSimple_141 {p : Program} {l : Launch} {e : Env} {s : State} {m : MethodId} {args : Array Value} {below : List Frame} {meth : Method} {c : Code} {D : va_G} {K : Nat → ClassId} {A : Nat → Prop} {aM : Nat → Nat} (C : xC p s m args meth c cX6_readSimple 7 none yX6_readSimple D K A []) : ∀ (M : S6) (x1 : Int32) (x3 : Int32) (t0 : Int32) (r : Unit × (S6)), fX6_readSimple_141  M x1 x3 t0 = some r → ∀ (H : Heap) (locs : List Loc) (ls : Array Slot), va_P D vwCl (w6 aM K M) H → va_D A (w6 aM K M) → va_S A s.heap H locs → lv_has ls 7 [(0, .ref (aM 0)), (1, .int x1), (3, .int x3)] → W p l e (xR 1 23 (oX6_readSimple aM K r)) s m args below meth c H locs 0 0 (xQ below args s D K A (oX6_readSimple aM K r)) (F0 m 141 ls [.int t0]) := by
  obtain ⟨hx, hb, hr, hml, hown, hK, hts, hA, hG, hlk, hte, hnm⟩ := id C
  intro M x1 x3 t0 r h H locs ls hP hD hS hl
  replace h : (if M.2.2.2.2.1 = 0 then (if x3 = (1 : Int32) then (if (0 : Int32) < 0 ∨ 4 ≤ ((0 : Int32)).toNatClampNeg then none else fX6_readSimple_171 M x1 x3 t0 x1 (M.2.2.2.2.2.2.2.2.2.2.2.2.2.1 ((0 : Int32)).toNatClampNeg)) else fX6_readSimple_171 M x1 x3 t0 x1 (-1 : Int32)) else some ((), M)) = some r := h
  refine lv_istore (lv' := [(4, .int t0), (0, .ref (aM 0)), (1, .int x1), (3, .int x3)]) hx hb dX6_readSimple_141 hl (by decide) rfl (fun ls hl => ?_)
  refine lv_aload_n hx hb dX6_readSimple_143 rfl (lv_at hl 1 rfl) ?_
  refine va_get (D := D) (ci := 6) (v := .int M.2.2.2.2.1) (C := RX6) (T := TX6) (N := 21) hx hb hts xu_X6 hown hK hP 0 rfl rfl 4 (by decide) (hts _ xw_511) (fun _ h9 => h9) rfl dX6_readSimple_144 ?_
  refine lv_if_eq (tgt := 151) hx hb dX6_readSimple_147 (by decide) (fun c9 => ?_) (fun c9 => ?_)
  · replace h := xi_t c9 h
    refine lv_aload_n hx hb dX6_readSimple_151 rfl (lv_at hl 1 rfl) ?_
    refine va_get (D := D) (ci := 6) (v := .ref (aM 7)) (C := RX6) (T := TX6) (N := 21) hx hb hts xu_X6 hown hK hP 0 rfl rfl 12 (by decide) (hts _ xw_519) (fun _ h9 => h9) rfl dX6_readSimple_152 ?_
    refine lv_iload_n hx hb dX6_readSimple_155 rfl (lv_at hl 2 rfl) ?_
    refine lv_iload_n hx hb dX6_readSimple_156 rfl (lv_at hl 3 rfl) ?_
    refine lv_iconst (v := (1 : Int32)) hx hb dX6_readSimple_157 (by decide) ?_
    refine lv_icmp_ne (tgt := 170) hx hb dX6_readSimple_158 (by decide) (fun c9 => ?_) (fun c9 => ?_)
    · replace h := xi_f c9 h
      refine lv_iconst (v := (-1 : Int32)) hx hb dX6_readSimple_170 (by decide) ?_
      exact kX6_readSimple_171 C _ _ _ _ _ _ _ h _ _ _ hP hD hS (lv_sub hl [1, 2, 3, 0] rfl)
    · replace h := xi_t c9 h
      refine lv_aload_n hx hb dX6_readSimple_161 rfl (lv_at hl 1 rfl) ?_
      refine va_get (D := D) (ci := 6) (v := .ref (aM 8)) (C := RX6) (T := TX6) (N := 21) hx hb hts xu_X6 hown hK hP 0 rfl rfl 13 (by decide) (hts _ xw_520) (fun _ h9 => h9) rfl dX6_readSimple_162 ?_
      refine lv_iconst (v := (0 : Int32)) hx hb dX6_readSimple_165 (by decide) ?_
      obtain ⟨hi9, h⟩ := xi_g h
      refine va_iald hx hb hK hP 8 0 rfl rfl hi9 dX6_readSimple_166 ?_
      refine lv_goto (tgt := 171) hx hb dX6_readSimple_167 (by decide) ?_
      exact kX6_readSimple_171 C _ _ _ _ _ _ _ h _ _ _ hP hD hS (lv_sub hl [1, 2, 3, 0] rfl)
  · replace h := xi_f c9 h
    obtain rfl := Option.some.inj h
    exact xe_v C hP hD hS dX6_readSimple_150
set_option maxHeartbeats 4000000 in
set_option maxRecDepth 100000 in
theorem kX6_readSimple_140 {p : Program} {l : Launch} {e : Env} {s : State} {m : MethodId} {args : Array Value} {below : List Frame} {meth : Method} {c : Code} {D : va_G} {K : Nat → ClassId} {A : Nat → Prop} {aM : Nat → Nat} (C : xC p s m args meth c cX6_readSimple 7 none yX6_readSimple D K A []) : ∀ (M : S6) (x1 : Int32) (x3 : Int32) (r : Unit × (S6)), fX6_readSimple_140  M x1 x3 = some r → ∀ (H : Heap) (locs : List Loc) (ls : Array Slot), va_P D vwCl (w6 aM K M) H → va_D A (w6 aM K M) → va_S A s.heap H locs → lv_has ls 7 [(0, .ref (aM 0)), (1, .int x1), (3, .int x3)] → W p l e (xR 1 23 (oX6_readSimple aM K r)) s m args below meth c H locs 0 0 (xQ below args s D K A (oX6_readSimple aM K r)) (F0 m 140 ls []) := by
  obtain ⟨hx, hb, hr, hml, hown, hK, hts, hA, hG, hlk, hte, hnm⟩ := id C
  intro M x1 x3 r h H locs ls hP hD hS hl
  replace h : fX6_readSimple_141 M x1 x3 (0 : Int32) = some r := h
  refine lv_iconst (v := (0 : Int32)) hx hb dX6_readSimple_140 (by decide) ?_
  exact kX6_readSimple_141 C _ _ _ _ _ h _ _ _ hP hD hS (lv_sub hl [0, 1, 2] rfl)
set_option maxHeartbeats 4000000 in
set_option maxRecDepth 100000 in
theorem kX6_readSimple_122 {p : Program} {l : Launch} {e : Env} {s : State} {m : MethodId} {args : Array Value} {below : List Frame} {meth : Method} {c : Code} {D : va_G} {K : Nat → ClassId} {A : Nat → Prop} {aM : Nat → Nat} (C : xC p s m args meth c cX6_readSimple 7 none yX6_readSimple D K A []) : ∀ (M : S6) (x1 : Int32) (x3 : Int32) (r : Unit × (S6)), fX6_readSimple_122  M x1 x3 = some r → ∀ (H : Heap) (locs : List Loc) (ls : Array Slot), va_P D vwCl (w6 aM K M) H → va_D A (w6 aM K M) → va_S A s.heap H locs → lv_has ls 7 [(0, .ref (aM 0)), (1, .int x1), (3, .int x3)] → W p l e (xR 1 23 (oX6_readSimple aM K r)) s m args below meth c H locs 0 0 (xQ below args s D K A (oX6_readSimple aM K r)) (F0 m 122 ls []) := by
  obtain ⟨hx, hb, hr, hml, hown, hK, hts, hA, hG, hlk, hte, hnm⟩ := id C
  intro M x1 x3 r h H locs ls hP hD hS hl
  replace h : (if x3 = (4 : Int32) then xbnd0 (fX6_number M (1 : Int32)) (fun v_7 s_8 => (if v_7 = (1 : Int32) then fX6_readSimple_141 s_8 x1 x3 (1 : Int32) else fX6_readSimple_140 s_8 x1 x3)) else fX6_readSimple_140 M x1 x3) = some r := h
  refine lv_iload_n hx hb dX6_readSimple_122 rfl (lv_at hl 2 rfl) ?_
  refine lv_iconst (v := (4 : Int32)) hx hb dX6_readSimple_123 (by decide) ?_
  refine lv_icmp_ne (tgt := 140) hx hb dX6_readSimple_124 (by decide) (fun c9 => ?_) (fun c9 => ?_)
  · replace h := xi_f c9 h
    exact kX6_readSimple_140 C _ _ _ _ h _ _ _ hP hD hS (lv_sub hl [0, 1, 2] rfl)
  · replace h := xi_t c9 h
    refine lv_aload_n hx hb dX6_readSimple_127 rfl (lv_at hl 0 rfl) ?_
    refine lv_iconst (v := (1 : Int32)) hx hb dX6_readSimple_128 (by decide) ?_
    obtain ⟨v_7, s_8, hc9, h⟩ := xi_d h
    refine xc_V (As := [.int (1 : Int32)]) (ws' := w6 aM K s_8) C (mX6_number l D K aM _ _ _ _ hc9) xgi_X6_66 xd_X6_number ⟨Nat.le_of_ble_eq_true rfl, Nat.le_of_ble_eq_true rfl⟩ ⟨Nat.zero_le _, Nat.zero_le _⟩ hl rfl (Nat.le_of_ble_eq_true rfl) dX6_readSimple_129 hP hD hS 0 6 rfl rfl rfl [0, 1, 2, 3, 4, 5, 6, 7, 8, 9, 10, 11] rfl rfl [(0, w6 aM K s_8)] rfl rfl rfl (List.forall_mem_cons.mpr ⟨Nat.le_of_ble_eq_true rfl, (fun _ h => absurd h List.not_mem_nil)⟩) (fun H locs hP hD hS => ?_)
    refine W.eq (g2 := F0 m 132 ls [.int v_7]) rfl ?_
    refine lv_iconst (v := (1 : Int32)) hx hb dX6_readSimple_132 (by decide) ?_
    refine lv_icmp_ne (tgt := 140) hx hb dX6_readSimple_133 (by decide) (fun c9 => ?_) (fun c9 => ?_)
    · replace h := xi_f c9 h
      exact kX6_readSimple_140 C _ _ _ _ h _ _ _ hP hD hS (lv_sub hl [0, 1, 2] rfl)
    · replace h := xi_t c9 h
      refine lv_iconst (v := (1 : Int32)) hx hb dX6_readSimple_136 (by decide) ?_
      refine lv_goto (tgt := 141) hx hb dX6_readSimple_137 (by decide) ?_
      exact kX6_readSimple_141 C _ _ _ _ _ h _ _ _ hP hD hS (lv_sub hl [0, 1, 2] rfl)
set_option maxHeartbeats 4000000 in
set_option maxRecDepth 100000 in
theorem kX6_readSimple_107 {p : Program} {l : Launch} {e : Env} {s : State} {m : MethodId} {args : Array Value} {below : List Frame} {meth : Method} {c : Code} {D : va_G} {K : Nat → ClassId} {A : Nat → Prop} {aM : Nat → Nat} (C : xC p s m args meth c cX6_readSimple 7 none yX6_readSimple D K A []) (rec11 : S6 → Int32 → Int32 → Int32 → Int32 → Option (Unit × (S6))) (rec70 : S6 → Int32 → Int32 → Int32 → Int32 → Int32 → Option (Unit × (S6))) (hrec11 : ∀ (M : S6) (x1 : Int32) (x2 : Int32) (x3 : Int32) (x4 : Int32) (r : Unit × (S6)), rec11 M x1 x2 x3 x4 = some r → ∀ (H : Heap) (locs : List Loc) (ls : Array Slot), va_P D vwCl (w6 aM K M) H → va_D A (w6 aM K M) → va_S A s.heap H locs → lv_has ls 7 [(0, .ref (aM 0)), (1, .int x1), (2, .int x2), (3, .int x3), (4, .int x4)] → W p l e (xR 1 23 (oX6_readSimple aM K r)) s m args below meth c H locs 0 0 (xQ below args s D K A (oX6_readSimple aM K r)) (F0 m 11 ls [])) (hrec70 : ∀ (M : S6) (x1 : Int32) (x2 : Int32) (x3 : Int32) (x4 : Int32) (x5 : Int32) (r : Unit × (S6)), rec70 M x1 x2 x3 x4 x5 = some r → ∀ (H : Heap) (locs : List Loc) (ls : Array Slot), va_P D vwCl (w6 aM K M) H → va_D A (w6 aM K M) → va_S A s.heap H locs → lv_has ls 7 [(0, .ref (aM 0)), (1, .int x1), (2, .int x2), (3, .int x3), (4, .int x4), (5, .int x5)] → W p l e (xR 1 23 (oX6_readSimple aM K r)) s m args below meth c H locs 0 0 (xQ below args s D K A (oX6_readSimple aM K r)) (F0 m 70 ls [])) : ∀ (M : S6) (x1 : Int32) (x2 : Int32) (x3 : Int32) (x4 : Int32) (x5 : Int32) (t1 : Int32) (r : Unit × (S6)), fX6_readSimple_107  rec11 rec70 M x1 x2 x3 x4 x5 t1 = some r → ∀ (H : Heap) (locs : List Loc) (ls : Array Slot), va_P D vwCl (w6 aM K M) H → va_D A (w6 aM K M) → va_S A s.heap H locs → lv_has ls 7 [(0, .ref (aM 0)), (1, .int x1), (2, .int x2), (3, .int x3), (4, .int x4), (5, .int x5)] → W p l e (xR 1 23 (oX6_readSimple aM K r)) s m args below meth c H locs 0 0 (xQ below args s D K A (oX6_readSimple aM K r)) (F0 m 107 ls [.int t1, .ref (aM 0)]) := by
  obtain ⟨hx, hb, hr, hml, hown, hK, hts, hA, hG, hlk, hte, hnm⟩ := id C
  intro M x1 x2 x3 x4 x5 t1 r h H locs ls hP hD hS hl
  replace h : (if t1 = 0 ∨ t1 = 1 then rec70 (M.1, M.2.1, M.2.2.1, M.2.2.2.1, t1, M.2.2.2.2.2.1, M.2.2.2.2.2.2.1, M.2.2.2.2.2.2.2.1, M.2.2.2.2.2.2.2.2.1, M.2.2.2.2.2.2.2.2.2.1, M.2.2.2.2.2.2.2.2.2.2.1, M.2.2.2.2.2.2.2.2.2.2.2.1, M.2.2.2.2.2.2.2.2.2.2.2.2.1, M.2.2.2.2.2.2.2.2.2.2.2.2.2.1, M.2.2.2.2.2.2.2.2.2.2.2.2.2.2.1, M.2.2.2.2.2.2.2.2.2.2.2.2.2.2.2.1, M.2.2.2.2.2.2.2.2.2.2.2.2.2.2.2.2.1, M.2.2.2.2.2.2.2.2.2.2.2.2.2.2.2.2.2.1, M.2.2.2.2.2.2.2.2.2.2.2.2.2.2.2.2.2.2.1, M.2.2.2.2.2.2.2.2.2.2.2.2.2.2.2.2.2.2.2.1, M.2.2.2.2.2.2.2.2.2.2.2.2.2.2.2.2.2.2.2.2) x1 x2 x3 x4 (x5 + (1 : Int32)) else none) = some r := h
  obtain ⟨hz9, h⟩ := xi_b h
  refine va_put (D := D) (ci := 6) (v := .int t1) (ty := .boolean) (C := RX6) (T := TX6) (N := 21) hx hb hts xu_X6 tyX6 tyX6_ok nmX6 hown hK hP hD hS 0 rfl rfl 4 (by decide) (hts _ xw_511) (fun _ h9 => h9) rfl (by decide +kernel) hz9.1 hz9.2 (Nat.le_of_ble_eq_true rfl) dX6_readSimple_107 (fun H locs hP hD hS => ?_)
  have hP : va_P D vwCl (w6 aM K (M.1, M.2.1, M.2.2.1, M.2.2.2.1, t1, M.2.2.2.2.2.1, M.2.2.2.2.2.2.1, M.2.2.2.2.2.2.2.1, M.2.2.2.2.2.2.2.2.1, M.2.2.2.2.2.2.2.2.2.1, M.2.2.2.2.2.2.2.2.2.2.1, M.2.2.2.2.2.2.2.2.2.2.2.1, M.2.2.2.2.2.2.2.2.2.2.2.2.1, M.2.2.2.2.2.2.2.2.2.2.2.2.2.1, M.2.2.2.2.2.2.2.2.2.2.2.2.2.2.1, M.2.2.2.2.2.2.2.2.2.2.2.2.2.2.2.1, M.2.2.2.2.2.2.2.2.2.2.2.2.2.2.2.2.1, M.2.2.2.2.2.2.2.2.2.2.2.2.2.2.2.2.2.1, M.2.2.2.2.2.2.2.2.2.2.2.2.2.2.2.2.2.2.1, M.2.2.2.2.2.2.2.2.2.2.2.2.2.2.2.2.2.2.2.1, M.2.2.2.2.2.2.2.2.2.2.2.2.2.2.2.2.2.2.2.2)) H := hP
  have hD : va_D A (w6 aM K (M.1, M.2.1, M.2.2.1, M.2.2.2.1, t1, M.2.2.2.2.2.1, M.2.2.2.2.2.2.1, M.2.2.2.2.2.2.2.1, M.2.2.2.2.2.2.2.2.1, M.2.2.2.2.2.2.2.2.2.1, M.2.2.2.2.2.2.2.2.2.2.1, M.2.2.2.2.2.2.2.2.2.2.2.1, M.2.2.2.2.2.2.2.2.2.2.2.2.1, M.2.2.2.2.2.2.2.2.2.2.2.2.2.1, M.2.2.2.2.2.2.2.2.2.2.2.2.2.2.1, M.2.2.2.2.2.2.2.2.2.2.2.2.2.2.2.1, M.2.2.2.2.2.2.2.2.2.2.2.2.2.2.2.2.1, M.2.2.2.2.2.2.2.2.2.2.2.2.2.2.2.2.2.1, M.2.2.2.2.2.2.2.2.2.2.2.2.2.2.2.2.2.2.1, M.2.2.2.2.2.2.2.2.2.2.2.2.2.2.2.2.2.2.2.1, M.2.2.2.2.2.2.2.2.2.2.2.2.2.2.2.2.2.2.2.2)) := hD
  refine lv_iinc (v := (x5 + (1 : Int32))) (lv' := [(5, .int (x5 + (1 : Int32))), (0, .ref (aM 0)), (1, .int x1), (2, .int x2), (3, .int x3), (4, .int x4)]) hx hb dX6_readSimple_110 hl (k := 5) rfl (by rfl) (by decide) rfl (fun ls hl => ?_)
  refine lv_goto (tgt := 70) hx hb dX6_readSimple_113 (by decide) ?_
  exact hrec70 _ _ _ _ _ _ _ h _ _ _ hP hD hS (lv_sub hl [1, 2, 3, 4, 5, 0] rfl)
set_option maxHeartbeats 4000000 in
set_option maxRecDepth 100000 in
theorem kX6_readSimple_70 {p : Program} {l : Launch} {e : Env} {s : State} {m : MethodId} {args : Array Value} {below : List Frame} {meth : Method} {c : Code} {D : va_G} {K : Nat → ClassId} {A : Nat → Prop} {aM : Nat → Nat} (C : xC p s m args meth c cX6_readSimple 7 none yX6_readSimple D K A []) (rec11 : S6 → Int32 → Int32 → Int32 → Int32 → Option (Unit × (S6))) (hrec11 : ∀ (M : S6) (x1 : Int32) (x2 : Int32) (x3 : Int32) (x4 : Int32) (r : Unit × (S6)), rec11 M x1 x2 x3 x4 = some r → ∀ (H : Heap) (locs : List Loc) (ls : Array Slot), va_P D vwCl (w6 aM K M) H → va_D A (w6 aM K M) → va_S A s.heap H locs → lv_has ls 7 [(0, .ref (aM 0)), (1, .int x1), (2, .int x2), (3, .int x3), (4, .int x4)] → W p l e (xR 1 23 (oX6_readSimple aM K r)) s m args below meth c H locs 0 0 (xQ below args s D K A (oX6_readSimple aM K r)) (F0 m 11 ls [])) : ∀ fu : Nat, ∀ (M : S6) (x1 : Int32) (x2 : Int32) (x3 : Int32) (x4 : Int32) (x5 : Int32) (r : Unit × (S6)), fX6_readSimple_70  rec11 fu M x1 x2 x3 x4 x5 = some r → ∀ (H : Heap) (locs : List Loc) (ls : Array Slot), va_P D vwCl (w6 aM K M) H → va_D A (w6 aM K M) → va_S A s.heap H locs → lv_has ls 7 [(0, .ref (aM 0)), (1, .int x1), (2, .int x2), (3, .int x3), (4, .int x4), (5, .int x5)] → W p l e (xR 1 23 (oX6_readSimple aM K r)) s m args below meth c H locs 0 0 (xQ below args s D K A (oX6_readSimple aM K r)) (F0 m 70 ls []) := by
  obtain ⟨hx, hb, hr, hml, hown, hK, hts, hA, hG, hlk, hte, hnm⟩ := id C
  intro fu
  induction fu with
  | zero =>
    intro M x1 x2 x3 x4 x5 r h
    exact nomatch (show (none : Option (Unit × (S6))) = some r from h)
  | succ fu ih =>
    intro M x1 x2 x3 x4 x5 r h H locs ls hP hD hS hl
    replace h : (if x4 ≤ x5 then rec11 M x1 x2 x3 (x4 + (1 : Int32)) else (if M.2.2.2.2.1 = 0 then (if x5 < 0 ∨ 4 ≤ (x5).toNatClampNeg then none else (if x4 < 0 ∨ 4 ≤ (x4).toNatClampNeg then none else (if (M.2.2.2.2.2.2.2.2.2.2.2.2.2.1 (x5).toNatClampNeg) = (M.2.2.2.2.2.2.2.2.2.2.2.2.2.1 (x4).toNatClampNeg) then fX6_readSimple_107 rec11 (fX6_readSimple_70 rec11 fu) M x1 x2 x3 x4 x5 (1 : Int32) else fX6_readSimple_107 rec11 (fX6_readSimple_70 rec11 fu) M x1 x2 x3 x4 x5 (0 : Int32)))) else fX6_readSimple_107 rec11 (fX6_readSimple_70 rec11 fu) M x1 x2 x3 x4 x5 (1 : Int32))) = some r := h
    refine lv_iload hx hb dX6_readSimple_70 (lv_at hl 5 rfl) ?_
    refine lv_iload hx hb dX6_readSimple_72 (lv_at hl 4 rfl) ?_
    refine lv_icmp_ge (tgt := 116) hx hb dX6_readSimple_74 (by decide) (fun c9 => ?_) (fun c9 => ?_)
    · replace h := xi_t c9 h
      refine lv_iinc (v := (x4 + (1 : Int32))) (lv' := [(4, .int (x4 + (1 : Int32))), (0, .ref (aM 0)), (1, .int x1), (2, .int x2), (3, .int x3), (5, .int x5)]) hx hb dX6_readSimple_116 hl (k := 4) rfl (by rfl) (by decide) rfl (fun ls hl => ?_)
      refine lv_goto (tgt := 11) hx hb dX6_readSimple_119 (by decide) ?_
      exact hrec11 _ _ _ _ _ _ h _ _ _ hP hD hS (lv_sub hl [1, 2, 3, 4, 0] rfl)
    · replace h := xi_f c9 h
      refine lv_aload_n hx hb dX6_readSimple_77 rfl (lv_at hl 0 rfl) ?_
      refine lv_aload_n hx hb dX6_readSimple_78 rfl (lv_at hl 0 rfl) ?_
      refine va_get (D := D) (ci := 6) (v := .int M.2.2.2.2.1) (C := RX6) (T := TX6) (N := 21) hx hb hts xu_X6 hown hK hP 0 rfl rfl 4 (by decide) (hts _ xw_511) (fun _ h9 => h9) rfl dX6_readSimple_79 ?_
      refine lv_if_ne (tgt := 102) hx hb dX6_readSimple_82 (by decide) (fun c9 => ?_) (fun c9 => ?_)
      · replace h := xi_f c9 h
        refine lv_iconst (v := (1 : Int32)) hx hb dX6_readSimple_102 (by decide) ?_
        refine lv_goto (tgt := 107) hx hb dX6_readSimple_103 (by decide) ?_
        exact kX6_readSimple_107 C _ _ hrec11 ih _ _ _ _ _ _ _ _ h _ _ _ hP hD hS (lv_sub hl [0, 1, 2, 3, 4, 5] rfl)
      · replace h := xi_t c9 h
        refine lv_aload_n hx hb dX6_readSimple_85 rfl (lv_at hl 0 rfl) ?_
        refine va_get (D := D) (ci := 6) (v := .ref (aM 8)) (C := RX6) (T := TX6) (N := 21) hx hb hts xu_X6 hown hK hP 0 rfl rfl 13 (by decide) (hts _ xw_520) (fun _ h9 => h9) rfl dX6_readSimple_86 ?_
        refine lv_iload hx hb dX6_readSimple_89 (lv_at hl 5 rfl) ?_
        obtain ⟨hi9, h⟩ := xi_g h
        refine va_iald hx hb hK hP 8 0 rfl rfl hi9 dX6_readSimple_91 ?_
        refine lv_aload_n hx hb dX6_readSimple_92 rfl (lv_at hl 0 rfl) ?_
        refine va_get (D := D) (ci := 6) (v := .ref (aM 8)) (C := RX6) (T := TX6) (N := 21) hx hb hts xu_X6 hown hK hP 0 rfl rfl 13 (by decide) (hts _ xw_520) (fun _ h9 => h9) rfl dX6_readSimple_93 ?_
        refine lv_iload hx hb dX6_readSimple_96 (lv_at hl 4 rfl) ?_
        obtain ⟨hi9, h⟩ := xi_g h
        refine va_iald hx hb hK hP 8 0 rfl rfl hi9 dX6_readSimple_98 ?_
        refine lv_icmp_ne (tgt := 106) hx hb dX6_readSimple_99 (by decide) (fun c9 => ?_) (fun c9 => ?_)
        · replace h := xi_f c9 h
          refine lv_iconst (v := (0 : Int32)) hx hb dX6_readSimple_106 (by decide) ?_
          exact kX6_readSimple_107 C _ _ hrec11 ih _ _ _ _ _ _ _ _ h _ _ _ hP hD hS (lv_sub hl [0, 1, 2, 3, 4, 5] rfl)
        · replace h := xi_t c9 h
          refine lv_iconst (v := (1 : Int32)) hx hb dX6_readSimple_102 (by decide) ?_
          refine lv_goto (tgt := 107) hx hb dX6_readSimple_103 (by decide) ?_
          exact kX6_readSimple_107 C _ _ hrec11 ih _ _ _ _ _ _ _ _ h _ _ _ hP hD hS (lv_sub hl [0, 1, 2, 3, 4, 5] rfl)
set_option maxHeartbeats 4000000 in
set_option maxRecDepth 100000 in
theorem kX6_readSimple_64 {p : Program} {l : Launch} {e : Env} {s : State} {m : MethodId} {args : Array Value} {below : List Frame} {meth : Method} {c : Code} {D : va_G} {K : Nat → ClassId} {A : Nat → Prop} {aM : Nat → Nat} (C : xC p s m args meth c cX6_readSimple 7 none yX6_readSimple D K A []) (rec11 : S6 → Int32 → Int32 → Int32 → Int32 → Option (Unit × (S6))) (hrec11 : ∀ (M : S6) (x1 : Int32) (x2 : Int32) (x3 : Int32) (x4 : Int32) (r : Unit × (S6)), rec11 M x1 x2 x3 x4 = some r → ∀ (H : Heap) (locs : List Loc) (ls : Array Slot), va_P D vwCl (w6 aM K M) H → va_D A (w6 aM K M) → va_S A s.heap H locs → lv_has ls 7 [(0, .ref (aM 0)), (1, .int x1), (2, .int x2), (3, .int x3), (4, .int x4)] → W p l e (xR 1 23 (oX6_readSimple aM K r)) s m args below meth c H locs 0 0 (xQ below args s D K A (oX6_readSimple aM K r)) (F0 m 11 ls [])) : ∀ (M : S6) (x1 : Int32) (x2 : Int32) (x3 : Int32) (x4 : Int32) (t1 : Int32) (r : Unit × (S6)), fX6_readSimple_64  rec11 M x1 x2 x3 x4 t1 = some r → ∀ (H : Heap) (locs : List Loc) (ls : Array Slot), va_P D vwCl (w6 aM K M) H → va_D A (w6 aM K M) → va_S A s.heap H locs → lv_has ls 7 [(0, .ref (aM 0)), (1, .int x1), (2, .int x2), (3, .int x3), (4, .int x4)] → W p l e (xR 1 23 (oX6_readSimple aM K r)) s m args below meth c H locs 0 0 (xQ below args s D K A (oX6_readSimple aM K r)) (F0 m 64 ls [.int t1, .ref (aM 0)]) := by
  obtain ⟨hx, hb, hr, hml, hown, hK, hts, hA, hG, hlk, hte, hnm⟩ := id C
  intro M x1 x2 x3 x4 t1 r h H locs ls hP hD hS hl
  replace h : (if t1 = 0 ∨ t1 = 1 then fX6_readSimple_70 rec11 xF (M.1, M.2.1, M.2.2.1, M.2.2.2.1, t1, M.2.2.2.2.2.1, M.2.2.2.2.2.2.1, M.2.2.2.2.2.2.2.1, M.2.2.2.2.2.2.2.2.1, M.2.2.2.2.2.2.2.2.2.1, M.2.2.2.2.2.2.2.2.2.2.1, M.2.2.2.2.2.2.2.2.2.2.2.1, M.2.2.2.2.2.2.2.2.2.2.2.2.1, M.2.2.2.2.2.2.2.2.2.2.2.2.2.1, M.2.2.2.2.2.2.2.2.2.2.2.2.2.2.1, M.2.2.2.2.2.2.2.2.2.2.2.2.2.2.2.1, M.2.2.2.2.2.2.2.2.2.2.2.2.2.2.2.2.1, M.2.2.2.2.2.2.2.2.2.2.2.2.2.2.2.2.2.1, M.2.2.2.2.2.2.2.2.2.2.2.2.2.2.2.2.2.2.1, M.2.2.2.2.2.2.2.2.2.2.2.2.2.2.2.2.2.2.2.1, M.2.2.2.2.2.2.2.2.2.2.2.2.2.2.2.2.2.2.2.2) x1 x2 x3 x4 (0 : Int32) else none) = some r := h
  obtain ⟨hz9, h⟩ := xi_b h
  refine va_put (D := D) (ci := 6) (v := .int t1) (ty := .boolean) (C := RX6) (T := TX6) (N := 21) hx hb hts xu_X6 tyX6 tyX6_ok nmX6 hown hK hP hD hS 0 rfl rfl 4 (by decide) (hts _ xw_511) (fun _ h9 => h9) rfl (by decide +kernel) hz9.1 hz9.2 (Nat.le_of_ble_eq_true rfl) dX6_readSimple_64 (fun H locs hP hD hS => ?_)
  have hP : va_P D vwCl (w6 aM K (M.1, M.2.1, M.2.2.1, M.2.2.2.1, t1, M.2.2.2.2.2.1, M.2.2.2.2.2.2.1, M.2.2.2.2.2.2.2.1, M.2.2.2.2.2.2.2.2.1, M.2.2.2.2.2.2.2.2.2.1, M.2.2.2.2.2.2.2.2.2.2.1, M.2.2.2.2.2.2.2.2.2.2.2.1, M.2.2.2.2.2.2.2.2.2.2.2.2.1, M.2.2.2.2.2.2.2.2.2.2.2.2.2.1, M.2.2.2.2.2.2.2.2.2.2.2.2.2.2.1, M.2.2.2.2.2.2.2.2.2.2.2.2.2.2.2.1, M.2.2.2.2.2.2.2.2.2.2.2.2.2.2.2.2.1, M.2.2.2.2.2.2.2.2.2.2.2.2.2.2.2.2.2.1, M.2.2.2.2.2.2.2.2.2.2.2.2.2.2.2.2.2.2.1, M.2.2.2.2.2.2.2.2.2.2.2.2.2.2.2.2.2.2.2.1, M.2.2.2.2.2.2.2.2.2.2.2.2.2.2.2.2.2.2.2.2)) H := hP
  have hD : va_D A (w6 aM K (M.1, M.2.1, M.2.2.1, M.2.2.2.1, t1, M.2.2.2.2.2.1, M.2.2.2.2.2.2.1, M.2.2.2.2.2.2.2.1, M.2.2.2.2.2.2.2.2.1, M.2.2.2.2.2.2.2.2.2.1, M.2.2.2.2.2.2.2.2.2.2.1, M.2.2.2.2.2.2.2.2.2.2.2.1, M.2.2.2.2.2.2.2.2.2.2.2.2.1, M.2.2.2.2.2.2.2.2.2.2.2.2.2.1, M.2.2.2.2.2.2.2.2.2.2.2.2.2.2.1, M.2.2.2.2.2.2.2.2.2.2.2.2.2.2.2.1, M.2.2.2.2.2.2.2.2.2.2.2.2.2.2.2.2.1, M.2.2.2.2.2.2.2.2.2.2.2.2.2.2.2.2.2.1, M.2.2.2.2.2.2.2.2.2.2.2.2.2.2.2.2.2.2.1, M.2.2.2.2.2.2.2.2.2.2.2.2.2.2.2.2.2.2.2.1, M.2.2.2.2.2.2.2.2.2.2.2.2.2.2.2.2.2.2.2.2)) := hD
  refine lv_iconst (v := (0 : Int32)) hx hb dX6_readSimple_67 (by decide) ?_
  refine lv_istore (lv' := [(5, .int (0 : Int32)), (0, .ref (aM 0)), (1, .int x1), (2, .int x2), (3, .int x3), (4, .int x4)]) hx hb dX6_readSimple_68 hl (by decide) rfl (fun ls hl => ?_)
  exact kX6_readSimple_70 C _ hrec11 _ _ _ _ _ _ _ _ h _ _ _ hP hD hS (lv_sub hl [1, 2, 3, 4, 5, 0] rfl)
set_option maxHeartbeats 4000000 in
set_option maxRecDepth 100000 in
theorem kX6_readSimple_11 {p : Program} {l : Launch} {e : Env} {s : State} {m : MethodId} {args : Array Value} {below : List Frame} {meth : Method} {c : Code} {D : va_G} {K : Nat → ClassId} {A : Nat → Prop} {aM : Nat → Nat} (C : xC p s m args meth c cX6_readSimple 7 none yX6_readSimple D K A []) : ∀ fu : Nat, ∀ (M : S6) (x1 : Int32) (x2 : Int32) (x3 : Int32) (x4 : Int32) (r : Unit × (S6)), fX6_readSimple_11 fu M x1 x2 x3 x4 = some r → ∀ (H : Heap) (locs : List Loc) (ls : Array Slot), va_P D vwCl (w6 aM K M) H → va_D A (w6 aM K M) → va_S A s.heap H locs → lv_has ls 7 [(0, .ref (aM 0)), (1, .int x1), (2, .int x2), (3, .int x3), (4, .int x4)] → W p l e (xR 1 23 (oX6_readSimple aM K r)) s m args below meth c H locs 0 0 (xQ below args s D K A (oX6_readSimple aM K r)) (F0 m 11 ls []) := by
  obtain ⟨hx, hb, hr, hml, hown, hK, hts, hA, hG, hlk, hte, hnm⟩ := id C
  intro fu
  induction fu with
  | zero =>
    intro M x1 x2 x3 x4 r h
    exact nomatch (show (none : Option (Unit × (S6))) = some r from h)
  | succ fu ih =>
    intro M x1 x2 x3 x4 r h H locs ls hP hD hS hl
    replace h : (if x3 ≤ x4 then fX6_readSimple_122 M x1 x3 else (if M.2.2.2.2.1 = 0 then xbnd0 (fX6_widthOf M x2) (fun v_3 s_4 => xbnd0 (fX6_number s_4 v_3) (fun v_5 s_6 => (if x4 < 0 ∨ 4 ≤ (x4).toNatClampNeg then none else (if s_6.2.2.2.2.1 = 0 then (if x4 < 0 ∨ 4 ≤ (x4).toNatClampNeg then none else (if ((upd s_6.2.2.2.2.2.2.2.2.2.2.2.2.2.1 (x4).toNatClampNeg v_5) (x4).toNatClampNeg) < x2 then fX6_readSimple_64 (fX6_readSimple_11 fu) (s_6.1, s_6.2.1, s_6.2.2.1, s_6.2.2.2.1, s_6.2.2.2.2.1, s_6.2.2.2.2.2.1, s_6.2.2.2.2.2.2.1, s_6.2.2.2.2.2.2.2.1, s_6.2.2.2.2.2.2.2.2.1, s_6.2.2.2.2.2.2.2.2.2.1, s_6.2.2.2.2.2.2.2.2.2.2.1, s_6.2.2.2.2.2.2.2.2.2.2.2.1, s_6.2.2.2.2.2.2.2.2.2.2.2.2.1, (upd s_6.2.2.2.2.2.2.2.2.2.2.2.2.2.1 (x4).toNatClampNeg v_5), s_6.2.2.2.2.2.2.2.2.2.2.2.2.2.2.1, s_6.2.2.2.2.2.2.2.2.2.2.2.2.2.2.2.1, s_6.2.2.2.2.2.2.2.2.2.2.2.2.2.2.2.2.1, s_6.2.2.2.2.2.2.2.2.2.2.2.2.2.2.2.2.2.1, s_6.2.2.2.2.2.2.2.2.2.2.2.2.2.2.2.2.2.2.1, s_6.2.2.2.2.2.2.2.2.2.2.2.2.2.2.2.2.2.2.2.1, s_6.2.2.2.2.2.2.2.2.2.2.2.2.2.2.2.2.2.2.2.2) x1 x2 x3 x4 (0 : Int32) else fX6_readSimple_64 (fX6_readSimple_11 fu) (s_6.1, s_6.2.1, s_6.2.2.1, s_6.2.2.2.1, s_6.2.2.2.2.1, s_6.2.2.2.2.2.1, s_6.2.2.2.2.2.2.1, s_6.2.2.2.2.2.2.2.1, s_6.2.2.2.2.2.2.2.2.1, s_6.2.2.2.2.2.2.2.2.2.1, s_6.2.2.2.2.2.2.2.2.2.2.1, s_6.2.2.2.2.2.2.2.2.2.2.2.1, s_6.2.2.2.2.2.2.2.2.2.2.2.2.1, (upd s_6.2.2.2.2.2.2.2.2.2.2.2.2.2.1 (x4).toNatClampNeg v_5), s_6.2.2.2.2.2.2.2.2.2.2.2.2.2.2.1, s_6.2.2.2.2.2.2.2.2.2.2.2.2.2.2.2.1, s_6.2.2.2.2.2.2.2.2.2.2.2.2.2.2.2.2.1, s_6.2.2.2.2.2.2.2.2.2.2.2.2.2.2.2.2.2.1, s_6.2.2.2.2.2.2.2.2.2.2.2.2.2.2.2.2.2.2.1, s_6.2.2.2.2.2.2.2.2.2.2.2.2.2.2.2.2.2.2.2.1, s_6.2.2.2.2.2.2.2.2.2.2.2.2.2.2.2.2.2.2.2.2) x1 x2 x3 x4 (1 : Int32))) else fX6_readSimple_64 (fX6_readSimple_11 fu) (s_6.1, s_6.2.1, s_6.2.2.1, s_6.2.2.2.1, s_6.2.2.2.2.1, s_6.2.2.2.2.2.1, s_6.2.2.2.2.2.2.1, s_6.2.2.2.2.2.2.2.1, s_6.2.2.2.2.2.2.2.2.1, s_6.2.2.2.2.2.2.2.2.2.1, s_6.2.2.2.2.2.2.2.2.2.2.1, s_6.2.2.2.2.2.2.2.2.2.2.2.1, s_6.2.2.2.2.2.2.2.2.2.2.2.2.1, (upd s_6.2.2.2.2.2.2.2.2.2.2.2.2.2.1 (x4).toNatClampNeg v_5), s_6.2.2.2.2.2.2.2.2.2.2.2.2.2.2.1, s_6.2.2.2.2.2.2.2.2.2.2.2.2.2.2.2.1, s_6.2.2.2.2.2.2.2.2.2.2.2.2.2.2.2.2.1, s_6.2.2.2.2.2.2.2.2.2.2.2.2.2.2.2.2.2.1, s_6.2.2.2.2.2.2.2.2.2.2.2.2.2.2.2.2.2.2.1, s_6.2.2.2.2.2.2.2.2.2.2.2.2.2.2.2.2.2.2.2.1, s_6.2.2.2.2.2.2.2.2.2.2.2.2.2.2.2.2.2.2.2.2) x1 x2 x3 x4 (1 : Int32))))) else fX6_readSimple_122 M x1 x3)) = some r := h
    refine lv_iload hx hb dX6_readSimple_11 (lv_at hl 4 rfl) ?_
    refine lv_iload_n hx hb dX6_readSimple_13 rfl (lv_at hl 3 rfl) ?_
    refine lv_icmp_ge (tgt := 122) hx hb dX6_readSimple_14 (by decide) (fun c9 => ?_) (fun c9 => ?_)
    · replace h := xi_t c9 h
      exact kX6_readSimple_122 C _ _ _ _ h _ _ _ hP hD hS (lv_sub hl [0, 1, 3] rfl)
    · replace h := xi_f c9 h
      refine lv_aload_n hx hb dX6_readSimple_17 rfl (lv_at hl 0 rfl) ?_
      refine va_get (D := D) (ci := 6) (v := .int M.2.2.2.2.1) (C := RX6) (T := TX6) (N := 21) hx hb hts xu_X6 hown hK hP 0 rfl rfl 4 (by decide) (hts _ xw_511) (fun _ h9 => h9) rfl dX6_readSimple_18 ?_
      refine lv_if_ne (tgt := 122) hx hb dX6_readSimple_21 (by decide) (fun c9 => ?_) (fun c9 => ?_)
      · replace h := xi_f c9 h
        exact kX6_readSimple_122 C _ _ _ _ h _ _ _ hP hD hS (lv_sub hl [0, 1, 3] rfl)
      · replace h := xi_t c9 h
        refine lv_aload_n hx hb dX6_readSimple_24 rfl (lv_at hl 0 rfl) ?_
        refine va_get (D := D) (ci := 6) (v := .ref (aM 8)) (C := RX6) (T := TX6) (N := 21) hx hb hts xu_X6 hown hK hP 0 rfl rfl 13 (by decide) (hts _ xw_520) (fun _ h9 => h9) rfl dX6_readSimple_25 ?_
        refine lv_iload hx hb dX6_readSimple_28 (lv_at hl 4 rfl) ?_
        refine lv_aload_n hx hb dX6_readSimple_30 rfl (lv_at hl 0 rfl) ?_
        refine lv_aload_n hx hb dX6_readSimple_31 rfl (lv_at hl 0 rfl) ?_
        refine lv_iload_n hx hb dX6_readSimple_32 rfl (lv_at hl 2 rfl) ?_
        obtain ⟨v_3, s_4, hc9, h⟩ := xi_d h
        refine xc_V (As := [.int x2]) (ws' := w6 aM K s_4) C (mX6_widthOf l D K aM _ _ _ _ hc9) xgi_X6_70 xd_X6_widthOf ⟨Nat.le_of_ble_eq_true rfl, Nat.le_of_ble_eq_true rfl⟩ ⟨Nat.zero_le _, Nat.zero_le _⟩ hl rfl (Nat.le_of_ble_eq_true rfl) dX6_readSimple_33 hP hD hS 0 6 rfl rfl rfl [0, 1, 2, 3, 4, 5, 6, 7, 8, 9, 10, 11] rfl rfl [(0, w6 aM K s_4)] rfl rfl rfl (List.forall_mem_cons.mpr ⟨Nat.le_of_ble_eq_true rfl, (fun _ h => absurd h List.not_mem_nil)⟩) (fun H locs hP hD hS => ?_)
        refine W.eq (g2 := F0 m 36 ls [.int v_3, .ref (aM 0), .int x4, .ref (aM 8)]) rfl ?_
        obtain ⟨v_5, s_6, hc9, h⟩ := xi_d h
        refine xc_V (As := [.int v_3]) (ws' := w6 aM K s_6) C (mX6_number l D K aM _ _ _ _ hc9) xgi_X6_66 xd_X6_number ⟨Nat.le_of_ble_eq_true rfl, Nat.le_of_ble_eq_true rfl⟩ ⟨Nat.zero_le _, Nat.zero_le _⟩ hl rfl (Nat.le_of_ble_eq_true rfl) dX6_readSimple_36 hP hD hS 0 6 rfl rfl rfl [0, 1, 2, 3, 4, 5, 6, 7, 8, 9, 10, 11] rfl rfl [(0, w6 aM K s_6)] rfl rfl rfl (List.forall_mem_cons.mpr ⟨Nat.le_of_ble_eq_true rfl, (fun _ h => absurd h List.not_mem_nil)⟩) (fun H locs hP hD hS => ?_)
        refine W.eq (g2 := F0 m 39 ls [.int v_5, .int x4, .ref (aM 8)]) rfl ?_
        obtain ⟨hi9, h⟩ := xi_g h
        refine va_iast hx hb hK hP hD hS 8 0 rfl rfl hi9 dX6_readSimple_39 (fun H locs hP hD hS => ?_)
        have hP : va_P D vwCl (w6 aM K (s_6.1, s_6.2.1, s_6.2.2.1, s_6.2.2.2.1, s_6.2.2.2.2.1, s_6.2.2.2.2.2.1, s_6.2.2.2.2.2.2.1, s_6.2.2.2.2.2.2.2.1, s_6.2.2.2.2.2.2.2.2.1, s_6.2.2.2.2.2.2.2.2.2.1, s_6.2.2.2.2.2.2.2.2.2.2.1, s_6.2.2.2.2.2.2.2.2.2.2.2.1, s_6.2.2.2.2.2.2.2.2.2.2.2.2.1, (upd s_6.2.2.2.2.2.2.2.2.2.2.2.2.2.1 (x4).toNatClampNeg v_5), s_6.2.2.2.2.2.2.2.2.2.2.2.2.2.2.1, s_6.2.2.2.2.2.2.2.2.2.2.2.2.2.2.2.1, s_6.2.2.2.2.2.2.2.2.2.2.2.2.2.2.2.2.1, s_6.2.2.2.2.2.2.2.2.2.2.2.2.2.2.2.2.2.1, s_6.2.2.2.2.2.2.2.2.2.2.2.2.2.2.2.2.2.2.1, s_6.2.2.2.2.2.2.2.2.2.2.2.2.2.2.2.2.2.2.2.1, s_6.2.2.2.2.2.2.2.2.2.2.2.2.2.2.2.2.2.2.2.2)) H := hP
        have hD : va_D A (w6 aM K (s_6.1, s_6.2.1, s_6.2.2.1, s_6.2.2.2.1, s_6.2.2.2.2.1, s_6.2.2.2.2.2.1, s_6.2.2.2.2.2.2.1, s_6.2.2.2.2.2.2.2.1, s_6.2.2.2.2.2.2.2.2.1, s_6.2.2.2.2.2.2.2.2.2.1, s_6.2.2.2.2.2.2.2.2.2.2.1, s_6.2.2.2.2.2.2.2.2.2.2.2.1, s_6.2.2.2.2.2.2.2.2.2.2.2.2.1, (upd s_6.2.2.2.2.2.2.2.2.2.2.2.2.2.1 (x4).toNatClampNeg v_5), s_6.2.2.2.2.2.2.2.2.2.2.2.2.2.2.1, s_6.2.2.2.2.2.2.2.2.2.2.2.2.2.2.2.1, s_6.2.2.2.2.2.2.2.2.2.2.2.2.2.2.2.2.1, s_6.2.2.2.2.2.2.2.2.2.2.2.2.2.2.2.2.2.1, s_6.2.2.2.2.2.2.2.2.2.2.2.2.2.2.2.2.2.2.1, s_6.2.2.2.2.2.2.2.2.2.2.2.2.2.2.2.2.2.2.2.1, s_6.2.2.2.2.2.2.2.2.2.2.2.2.2.2.2.2.2.2.2.2)) := hD
        refine lv_aload_n hx hb dX6_readSimple_40 rfl (lv_at hl 0 rfl) ?_
        refine lv_aload_n hx hb dX6_readSimple_41 rfl (lv_at hl 0 rfl) ?_
        refine va_get (D := D) (ci := 6) (v := .int s_6.2.2.2.2.1) (C := RX6) (T := TX6) (N := 21) hx hb hts xu_X6 hown hK hP 0 rfl rfl 4 (by decide) (hts _ xw_511) (fun _ h9 => h9) rfl dX6_readSimple_42 ?_
        refine lv_if_ne (tgt := 59) hx hb dX6_readSimple_45 (by decide) (fun c9 => ?_) (fun c9 => ?_)
        · replace h := xi_f c9 h
          refine lv_iconst (v := (1 : Int32)) hx hb dX6_readSimple_59 (by decide) ?_
          refine lv_goto (tgt := 64) hx hb dX6_readSimple_60 (by decide) ?_
          exact kX6_readSimple_64 C _ ih _ _ _ _ _ _ _ h _ _ _ hP hD hS (lv_sub hl [0, 1, 2, 3, 4] rfl)
        · replace h := xi_t c9 h
          refine lv_aload_n hx hb dX6_readSimple_48 rfl (lv_at hl 0 rfl) ?_
          refine va_get (D := D) (ci := 6) (v := .ref (aM 8)) (C := RX6) (T := TX6) (N := 21) hx hb hts xu_X6 hown hK hP 0 rfl rfl 13 (by decide) (hts _ xw_520) (fun _ h9 => h9) rfl dX6_readSimple_49 ?_
          refine lv_iload hx hb dX6_readSimple_52 (lv_at hl 4 rfl) ?_
          obtain ⟨hi9, h⟩ := xi_g h
          refine va_iald hx hb hK hP 8 0 rfl rfl hi9 dX6_readSimple_54 ?_
          refine lv_iload_n hx hb dX6_readSimple_55 rfl (lv_at hl 2 rfl) ?_
          refine lv_icmp_lt (tgt := 63) hx hb dX6_readSimple_56 (by decide) (fun c9 => ?_) (fun c9 => ?_)
          · replace h := xi_t c9 h
            refine lv_iconst (v := (0 : Int32)) hx hb dX6_readSimple_63 (by decide) ?_
            exact kX6_readSimple_64 C _ ih _ _ _ _ _ _ _ h _ _ _ hP hD hS (lv_sub hl [0, 1, 2, 3, 4] rfl)
          · replace h := xi_f c9 h
            refine lv_iconst (v := (1 : Int32)) hx hb dX6_readSimple_59 (by decide) ?_
            refine lv_goto (tgt := 64) hx hb dX6_readSimple_60 (by decide) ?_
            exact kX6_readSimple_64 C _ ih _ _ _ _ _ _ _ h _ _ _ hP hD hS (lv_sub hl [0, 1, 2, 3, 4] rfl)
set_option maxHeartbeats 4000000 in
set_option maxRecDepth 100000 in
theorem mX6_readSimple (l : Launch) (D : va_G) (K : Nat → ClassId) (aM : Nat → Nat) (sz : Nat) (M : S6) (p1 : Int32) (p2 : Int32) (r : Unit × (S6)) (h : fX6_readSimple M p1 p2 = some r) : xMet l yX6_readSimple cX6_readSimple 7 none 1 23 D K [.ref (aM 0), .int p1, .int p2] sz (w6 aM K M) (oX6_readSimple aM K r) := by
  refine xm_of _ (by decide +kernel) (Nat.le_of_ble_eq_true rfl) (fun p e s m args below meth c A C hP hD ls hl => ?_)
  have hl : lv_has ls 7 [(0, .ref (aM 0)), (1, .int p1), (2, .int p2)] := hl
  have hS : va_S A s.heap s.heap [] := va_S.rf
  obtain ⟨hx, hb, hr, hml, hown, hK, hts, hA, hG, hlk, hte, hnm⟩ := id C
  replace h : xbnd0 (fX6_number M (2 : Int32)) (fun v_1 s_2 => fX6_readSimple_11 xF s_2 p1 p2 (v_1 + (1 : Int32)) (0 : Int32)) = some r := h
  refine lv_aload_n hx hb dX6_readSimple_0 rfl (lv_at hl 0 rfl) ?_
  refine lv_iconst (v := (2 : Int32)) hx hb dX6_readSimple_1 (by decide) ?_
  obtain ⟨v_1, s_2, hc9, h⟩ := xi_d h
  refine xc_V (As := [.int (2 : Int32)]) (ws' := w6 aM K s_2) C (mX6_number l D K aM _ _ _ _ hc9) xgi_X6_66 xd_X6_number ⟨Nat.le_of_ble_eq_true rfl, Nat.le_of_ble_eq_true rfl⟩ ⟨Nat.zero_le _, Nat.zero_le _⟩ hl rfl (Nat.le_of_ble_eq_true rfl) dX6_readSimple_2 hP hD hS 0 6 rfl rfl rfl [0, 1, 2, 3, 4, 5, 6, 7, 8, 9, 10, 11] rfl rfl [(0, w6 aM K s_2)] rfl rfl rfl (List.forall_mem_cons.mpr ⟨Nat.le_of_ble_eq_true rfl, (fun _ h => absurd h List.not_mem_nil)⟩) (fun H locs hP hD hS => ?_)
  refine W.eq (g2 := F0 m 5 ls [.int v_1]) rfl ?_
  refine lv_iconst (v := (1 : Int32)) hx hb dX6_readSimple_5 (by decide) ?_
  refine lv_iadd hx hb dX6_readSimple_6 ?_
  refine lv_istore_n (lv' := [(3, .int (v_1 + (1 : Int32))), (0, .ref (aM 0)), (1, .int p1), (2, .int p2)]) hx hb dX6_readSimple_7 rfl hl (by decide) rfl (fun ls hl => ?_)
  refine lv_iconst (v := (0 : Int32)) hx hb dX6_readSimple_8 (by decide) ?_
  refine lv_istore (lv' := [(4, .int (0 : Int32)), (3, .int (v_1 + (1 : Int32))), (0, .ref (aM 0)), (1, .int p1), (2, .int p2)]) hx hb dX6_readSimple_9 hl (by decide) rfl (fun ls hl => ?_)
  exact kX6_readSimple_11 C _ _ _ _ _ _ _ h _ _ _ hP hD hS (lv_sub hl [2, 3, 4, 1, 0] rfl)
abbrev oX6_readCode (aM : Nat → Nat) (K : Nat → ClassId) (q : Unit × (S6)) : xO := .inr (none, w6 aM K q.2)
def fX6_readCode_155 (M : S6) (t1 : Int32) : Option (Unit × (S6)) := (if t1 = 0 ∨ t1 = 1 then some ((), (M.1, M.2.1, M.2.2.1, M.2.2.2.1, t1, M.2.2.2.2.2.1, M.2.2.2.2.2.2.1, M.2.2.2.2.2.2.2.1, M.2.2.2.2.2.2.2.2.1, M.2.2.2.2.2.2.2.2.2.1, M.2.2.2.2.2.2.2.2.2.2.1, M.2.2.2.2.2.2.2.2.2.2.2.1, M.2.2.2.2.2.2.2.2.2.2.2.2.1, M.2.2.2.2.2.2.2.2.2.2.2.2.2.1, M.2.2.2.2.2.2.2.2.2.2.2.2.2.2.1, M.2.2.2.2.2.2.2.2.2.2.2.2.2.2.2.1, M.2.2.2.2.2.2.2.2.2.2.2.2.2.2.2.2.1, M.2.2.2.2.2.2.2.2.2.2.2.2.2.2.2.2.2.1, M.2.2.2.2.2.2.2.2.2.2.2.2.2.2.2.2.2.2.1, M.2.2.2.2.2.2.2.2.2.2.2.2.2.2.2.2.2.2.2.1, M.2.2.2.2.2.2.2.2.2.2.2.2.2.2.2.2.2.2.2.2)) else none)
def fX6_readCode_138 (M : S6) (x3 : Int32) : Option (Unit × (S6)) := (if M.2.2.2.2.1 = 0 then (if x3 ≤ 0 then fX6_readCode_155 M (0 : Int32) else fX6_readCode_155 M (1 : Int32)) else fX6_readCode_155 M (1 : Int32))
def fX6_readCode_129 (rec56 : S6 → Int32 → Int32 → Int32 → Int32 → Option (Unit × (S6))) (M : S6) (x1 : Int32) (x2 : Int32) (x3 : Int32) (x4 : Int32) (t1 : Int32) : Option (Unit × (S6)) := (if t1 = 0 ∨ t1 = 1 then rec56 (M.1, M.2.1, M.2.2.1, M.2.2.2.1, t1, M.2.2.2.2.2.1, M.2.2.2.2.2.2.1, M.2.2.2.2.2.2.2.1, M.2.2.2.2.2.2.2.2.1, M.2.2.2.2.2.2.2.2.2.1, M.2.2.2.2.2.2.2.2.2.2.1, M.2.2.2.2.2.2.2.2.2.2.2.1, M.2.2.2.2.2.2.2.2.2.2.2.2.1, M.2.2.2.2.2.2.2.2.2.2.2.2.2.1, M.2.2.2.2.2.2.2.2.2.2.2.2.2.2.1, M.2.2.2.2.2.2.2.2.2.2.2.2.2.2.2.1, M.2.2.2.2.2.2.2.2.2.2.2.2.2.2.2.2.1, M.2.2.2.2.2.2.2.2.2.2.2.2.2.2.2.2.2.1, M.2.2.2.2.2.2.2.2.2.2.2.2.2.2.2.2.2.2.1, M.2.2.2.2.2.2.2.2.2.2.2.2.2.2.2.2.2.2.2.1, M.2.2.2.2.2.2.2.2.2.2.2.2.2.2.2.2.2.2.2.2) x1 x2 x3 (x4 + (1 : Int32)) else none)
def fX6_readCode_110 (rec56 : S6 → Int32 → Int32 → Int32 → Int32 → Option (Unit × (S6))) (M : S6) (x1 : Int32) (x2 : Int32) (x4 : Int32) (t0 : Int32) (t1 : Int32) : Option (Unit × (S6)) := (if M.2.2.2.2.1 = 0 then (if 0 ≤ (t0 - t1) then fX6_readCode_129 rec56 M x1 x2 (t0 - t1) x4 (0 : Int32) else fX6_readCode_129 rec56 M x1 x2 (t0 - t1) x4 (1 : Int32)) else fX6_readCode_129 rec56 M x1 x2 (t0 - t1) x4 (1 : Int32))
def fX6_readCode_56 : Nat → S6 → Int32 → Int32 → Int32 → Int32 → Option (Unit × (S6))
  | 0 => fun _ _ _ _ _ => none
  | fu + 1 => fun M x1 x2 x3 x4 => (if x2 ≤ x4 then fX6_readCode_138 M x3 else (if x3 ≤ 0 then fX6_readCode_138 M x3 else (if M.2.2.2.2.1 = 0 then xbnd0 (fX6_number M (3 : Int32)) (fun v_5 s_6 => (if (((32 : Int32) * x1) + x4) < 0 ∨ 224 ≤ ((((32 : Int32) * x1) + x4)).toNatClampNeg then none else (if v_5 ≤ 0 then fX6_readCode_110 (fX6_readCode_56 fu) (s_6.1, s_6.2.1, s_6.2.2.1, s_6.2.2.2.1, s_6.2.2.2.2.1, s_6.2.2.2.2.2.1, s_6.2.2.2.2.2.2.1, s_6.2.2.2.2.2.2.2.1, s_6.2.2.2.2.2.2.2.2.1, s_6.2.2.2.2.2.2.2.2.2.1, s_6.2.2.2.2.2.2.2.2.2.2.1, (upd s_6.2.2.2.2.2.2.2.2.2.2.2.1 ((((32 : Int32) * x1) + x4)).toNatClampNeg v_5), s_6.2.2.2.2.2.2.2.2.2.2.2.2.1, s_6.2.2.2.2.2.2.2.2.2.2.2.2.2.1, s_6.2.2.2.2.2.2.2.2.2.2.2.2.2.2.1, s_6.2.2.2.2.2.2.2.2.2.2.2.2.2.2.2.1, s_6.2.2.2.2.2.2.2.2.2.2.2.2.2.2.2.2.1, s_6.2.2.2.2.2.2.2.2.2.2.2.2.2.2.2.2.2.1, s_6.2.2.2.2.2.2.2.2.2.2.2.2.2.2.2.2.2.2.1, s_6.2.2.2.2.2.2.2.2.2.2.2.2.2.2.2.2.2.2.2.1, s_6.2.2.2.2.2.2.2.2.2.2.2.2.2.2.2.2.2.2.2.2) x1 x2 x4 x3 (0 : Int32) else fX6_readCode_110 (fX6_readCode_56 fu) (s_6.1, s_6.2.1, s_6.2.2.1, s_6.2.2.2.1, s_6.2.2.2.2.1, s_6.2.2.2.2.2.1, s_6.2.2.2.2.2.2.1, s_6.2.2.2.2.2.2.2.1, s_6.2.2.2.2.2.2.2.2.1, s_6.2.2.2.2.2.2.2.2.2.1, s_6.2.2.2.2.2.2.2.2.2.2.1, (upd s_6.2.2.2.2.2.2.2.2.2.2.2.1 ((((32 : Int32) * x1) + x4)).toNatClampNeg v_5), s_6.2.2.2.2.2.2.2.2.2.2.2.2.1, s_6.2.2.2.2.2.2.2.2.2.2.2.2.2.1, s_6.2.2.2.2.2.2.2.2.2.2.2.2.2.2.1, s_6.2.2.2.2.2.2.2.2.2.2.2.2.2.2.2.1, s_6.2.2.2.2.2.2.2.2.2.2.2.2.2.2.2.2.1, s_6.2.2.2.2.2.2.2.2.2.2.2.2.2.2.2.2.2.1, s_6.2.2.2.2.2.2.2.2.2.2.2.2.2.2.2.2.2.2.1, s_6.2.2.2.2.2.2.2.2.2.2.2.2.2.2.2.2.2.2.2.1, s_6.2.2.2.2.2.2.2.2.2.2.2.2.2.2.2.2.2.2.2.2) x1 x2 x4 x3 ((128 : Int32) >>> (v_5 &&& 31))))) else fX6_readCode_138 M x3)))
def fX6_readCode_2 : Nat → S6 → Int32 → Int32 → Int32 → Option (Unit × (S6))
  | 0 => fun _ _ _ _ => none
  | fu + 1 => fun M x1 x2 x3 => (if (32 : Int32) ≤ x3 then (if x1 < 0 ∨ 7 ≤ (x1).toNatClampNeg then none else xbnd0 (fX6_number (M.1, M.2.1, M.2.2.1, M.2.2.2.1, M.2.2.2.2.1, M.2.2.2.2.2.1, M.2.2.2.2.2.2.1, M.2.2.2.2.2.2.2.1, M.2.2.2.2.2.2.2.2.1, M.2.2.2.2.2.2.2.2.2.1, M.2.2.2.2.2.2.2.2.2.2.1, M.2.2.2.2.2.2.2.2.2.2.2.1, (upd M.2.2.2.2.2.2.2.2.2.2.2.2.1 (x1).toNatClampNeg (-1 : Int32)), M.2.2.2.2.2.2.2.2.2.2.2.2.2.1, M.2.2.2.2.2.2.2.2.2.2.2.2.2.2.1, M.2.2.2.2.2.2.2.2.2.2.2.2.2.2.2.1, M.2.2.2.2.2.2.2.2.2.2.2.2.2.2.2.2.1, M.2.2.2.2.2.2.2.2.2.2.2.2.2.2.2.2.2.1, M.2.2.2.2.2.2.2.2.2.2.2.2.2.2.2.2.2.2.1, M.2.2.2.2.2.2.2.2.2.2.2.2.2.2.2.2.2.2.2.1, M.2.2.2.2.2.2.2.2.2.2.2.2.2.2.2.2.2.2.2.2) (1 : Int32)) (fun v_1 s_2 => (if v_1 = (1 : Int32) then xbnd0 (fX6_readSimple s_2 x1 x2) (fun v_3 s_4 => some ((), s_4)) else fX6_readCode_56 xF s_2 x1 x2 (128 : Int32) (0 : Int32)))) else (if (((32 : Int32) * x1) + x3) < 0 ∨ 224 ≤ ((((32 : Int32) * x1) + x3)).toNatClampNeg then none else fX6_readCode_2 fu (M.1, M.2.1, M.2.2.1, M.2.2.2.1, M.2.2.2.2.1, M.2.2.2.2.2.1, M.2.2.2.2.2.2.1, M.2.2.2.2.2.2.2.1, M.2.2.2.2.2.2.2.2.1, M.2.2.2.2.2.2.2.2.2.1, M.2.2.2.2.2.2.2.2.2.2.1, (upd M.2.2.2.2.2.2.2.2.2.2.2.1 ((((32 : Int32) * x1) + x3)).toNatClampNeg (0 : Int32)), M.2.2.2.2.2.2.2.2.2.2.2.2.1, M.2.2.2.2.2.2.2.2.2.2.2.2.2.1, M.2.2.2.2.2.2.2.2.2.2.2.2.2.2.1, M.2.2.2.2.2.2.2.2.2.2.2.2.2.2.2.1, M.2.2.2.2.2.2.2.2.2.2.2.2.2.2.2.2.1, M.2.2.2.2.2.2.2.2.2.2.2.2.2.2.2.2.2.1, M.2.2.2.2.2.2.2.2.2.2.2.2.2.2.2.2.2.2.1, M.2.2.2.2.2.2.2.2.2.2.2.2.2.2.2.2.2.2.2.1, M.2.2.2.2.2.2.2.2.2.2.2.2.2.2.2.2.2.2.2.2) x1 x2 (x3 + (1 : Int32))))
def fX6_readCode (M : S6) (p1 : Int32) (p2 : Int32) : Option (Unit × (S6)) := fX6_readCode_2 xF M p1 p2 (0 : Int32)
set_option maxHeartbeats 4000000 in
set_option maxRecDepth 100000 in
theorem kX6_readCode_155 {p : Program} {l : Launch} {e : Env} {s : State} {m : MethodId} {args : Array Value} {below : List Frame} {meth : Method} {c : Code} {D : va_G} {K : Nat → ClassId} {A : Nat → Prop} {aM : Nat → Nat} (C : xC p s m args meth c cX6_readCode 6 none yX6_readCode D K A []) : ∀ (M : S6) (t1 : Int32) (r : Unit × (S6)), fX6_readCode_155  M t1 = some r → ∀ (H : Heap) (locs : List Loc) (ls : Array Slot), va_P D vwCl (w6 aM K M) H → va_D A (w6 aM K M) → va_S A s.heap H locs → lv_has ls 6 [] → W p l e (xR 2 49 (oX6_readCode aM K r)) s m args below meth c H locs 0 0 (xQ below args s D K A (oX6_readCode aM K r)) (F0 m 155 ls [.int t1, .ref (aM 0)]) := by
  obtain ⟨hx, hb, hr, hml, hown, hK, hts, hA, hG, hlk, hte, hnm⟩ := id C
  intro M t1 r h H locs ls hP hD hS hl
  replace h : (if t1 = 0 ∨ t1 = 1 then some ((), (M.1, M.2.1, M.2.2.1, M.2.2.2.1, t1, M.2.2.2.2.2.1, M.2.2.2.2.2.2.1, M.2.2.2.2.2.2.2.1, M.2.2.2.2.2.2.2.2.1, M.2.2.2.2.2.2.2.2.2.1, M.2.2.2.2.2.2.2.2.2.2.1, M.2.2.2.2.2.2.2.2.2.2.2.1, M.2.2.2.2.2.2.2.2.2.2.2.2.1, M.2.2.2.2.2.2.2.2.2.2.2.2.2.1, M.2.2.2.2.2.2.2.2.2.2.2.2.2.2.1, M.2.2.2.2.2.2.2.2.2.2.2.2.2.2.2.1, M.2.2.2.2.2.2.2.2.2.2.2.2.2.2.2.2.1, M.2.2.2.2.2.2.2.2.2.2.2.2.2.2.2.2.2.1, M.2.2.2.2.2.2.2.2.2.2.2.2.2.2.2.2.2.2.1, M.2.2.2.2.2.2.2.2.2.2.2.2.2.2.2.2.2.2.2.1, M.2.2.2.2.2.2.2.2.2.2.2.2.2.2.2.2.2.2.2.2)) else none) = some r := h
  obtain ⟨hz9, h⟩ := xi_b h
  refine va_put (D := D) (ci := 6) (v := .int t1) (ty := .boolean) (C := RX6) (T := TX6) (N := 21) hx hb hts xu_X6 tyX6 tyX6_ok nmX6 hown hK hP hD hS 0 rfl rfl 4 (by decide) (hts _ xw_511) (fun _ h9 => h9) rfl (by decide +kernel) hz9.1 hz9.2 (Nat.le_of_ble_eq_true rfl) dX6_readCode_155 (fun H locs hP hD hS => ?_)
  have hP : va_P D vwCl (w6 aM K (M.1, M.2.1, M.2.2.1, M.2.2.2.1, t1, M.2.2.2.2.2.1, M.2.2.2.2.2.2.1, M.2.2.2.2.2.2.2.1, M.2.2.2.2.2.2.2.2.1, M.2.2.2.2.2.2.2.2.2.1, M.2.2.2.2.2.2.2.2.2.2.1, M.2.2.2.2.2.2.2.2.2.2.2.1, M.2.2.2.2.2.2.2.2.2.2.2.2.1, M.2.2.2.2.2.2.2.2.2.2.2.2.2.1, M.2.2.2.2.2.2.2.2.2.2.2.2.2.2.1, M.2.2.2.2.2.2.2.2.2.2.2.2.2.2.2.1, M.2.2.2.2.2.2.2.2.2.2.2.2.2.2.2.2.1, M.2.2.2.2.2.2.2.2.2.2.2.2.2.2.2.2.2.1, M.2.2.2.2.2.2.2.2.2.2.2.2.2.2.2.2.2.2.1, M.2.2.2.2.2.2.2.2.2.2.2.2.2.2.2.2.2.2.2.1, M.2.2.2.2.2.2.2.2.2.2.2.2.2.2.2.2.2.2.2.2)) H := hP
  have hD : va_D A (w6 aM K (M.1, M.2.1, M.2.2.1, M.2.2.2.1, t1, M.2.2.2.2.2.1, M.2.2.2.2.2.2.1, M.2.2.2.2.2.2.2.1, M.2.2.2.2.2.2.2.2.1, M.2.2.2.2.2.2.2.2.2.1, M.2.2.2.2.2.2.2.2.2.2.1, M.2.2.2.2.2.2.2.2.2.2.2.1, M.2.2.2.2.2.2.2.2.2.2.2.2.1, M.2.2.2.2.2.2.2.2.2.2.2.2.2.1, M.2.2.2.2.2.2.2.2.2.2.2.2.2.2.1, M.2.2.2.2.2.2.2.2.2.2.2.2.2.2.2.1, M.2.2.2.2.2.2.2.2.2.2.2.2.2.2.2.2.1, M.2.2.2.2.2.2.2.2.2.2.2.2.2.2.2.2.2.1, M.2.2.2.2.2.2.2.2.2.2.2.2.2.2.2.2.2.2.1, M.2.2.2.2.2.2.2.2.2.2.2.2.2.2.2.2.2.2.2.1, M.2.2.2.2.2.2.2.2.2.2.2.2.2.2.2.2.2.2.2.2)) := hD
  obtain rfl := Option.some.inj h
  exact xe_v C hP hD hS dX6_readCode_158
set_option maxHeartbeats 4000000 in
set_option maxRecDepth 100000 in
theorem kX6_readCode_138 {p : Program} {l : Launch} {e : Env} {s : State} {m : MethodId} {args : Array Value} {below : List Frame} {meth : Method} {c : Code} {D : va_G} {K : Nat → ClassId} {A : Nat → Prop} {aM : Nat → Nat} (C : xC p s m args meth c cX6_readCode 6 none yX6_readCode D K A []) : ∀ (M : S6) (x3 : Int32) (r : Unit × (S6)), fX6_readCode_138  M x3 = some r → ∀ (H : Heap) (locs : List Loc) (ls : Array Slot), va_P D vwCl (w6 aM K M) H → va_D A (w6 aM K M) → va_S A s.heap H locs → lv_has ls 6 [(0, .ref (aM 0)), (3, .int x3)] → W p l e (xR 2 49 (oX6_readCode aM K r)) s m args below meth c H locs 0 0 (xQ below args s D K A (oX6_readCode aM K r)) (F0 m 138 ls []) := by
  obtain ⟨hx, hb, hr, hml, hown, hK, hts, hA, hG, hlk, hte, hnm⟩ := id C
  intro M x3 r h H locs ls hP hD hS hl
  replace h : (if M.2.2.2.2.1 = 0 then (if x3 ≤ 0 then fX6_readCode_155 M (0 : Int32) else fX6_readCode_155 M (1 : Int32)) else fX6_readCode_155 M (1 : Int32)) = some r := h
  refine lv_aload_n hx hb dX6_readCode_138 rfl (lv_at hl 0 rfl) ?_
  refine lv_aload_n hx hb dX6_readCode_139 rfl (lv_at hl 0 rfl) ?_
  refine va_get (D := D) (ci := 6) (v := .int M.2.2.2.2.1) (C := RX6) (T := TX6) (N := 21) hx hb hts xu_X6 hown hK hP 0 rfl rfl 4 (by decide) (hts _ xw_511) (fun _ h9 => h9) rfl dX6_readCode_140 ?_
  refine lv_if_ne (tgt := 150) hx hb dX6_readCode_143 (by decide) (fun c9 => ?_) (fun c9 => ?_)
  · replace h := xi_f c9 h
    refine lv_iconst (v := (1 : Int32)) hx hb dX6_readCode_150 (by decide) ?_
    refine lv_goto (tgt := 155) hx hb dX6_readCode_151 (by decide) ?_
    exact kX6_readCode_155 C _ _ _ h _ _ _ hP hD hS (lv_sub hl [] rfl)
  · replace h := xi_t c9 h
    refine lv_iload_n hx hb dX6_readCode_146 rfl (lv_at hl 1 rfl) ?_
    refine lv_if_le (tgt := 154) hx hb dX6_readCode_147 (by decide) (fun c9 => ?_) (fun c9 => ?_)
    · replace h := xi_t c9 h
      refine lv_iconst (v := (0 : Int32)) hx hb dX6_readCode_154 (by decide) ?_
      exact kX6_readCode_155 C _ _ _ h _ _ _ hP hD hS (lv_sub hl [] rfl)
    · replace h := xi_f c9 h
      refine lv_iconst (v := (1 : Int32)) hx hb dX6_readCode_150 (by decide) ?_
      refine lv_goto (tgt := 155) hx hb dX6_readCode_151 (by decide) ?_
      exact kX6_readCode_155 C _ _ _ h _ _ _ hP hD hS (lv_sub hl [] rfl)
set_option maxHeartbeats 4000000 in
set_option maxRecDepth 100000 in
theorem kX6_readCode_129 {p : Program} {l : Launch} {e : Env} {s : State} {m : MethodId} {args : Array Value} {below : List Frame} {meth : Method} {c : Code} {D : va_G} {K : Nat → ClassId} {A : Nat → Prop} {aM : Nat → Nat} (C : xC p s m args meth c cX6_readCode 6 none yX6_readCode D K A []) (rec56 : S6 → Int32 → Int32 → Int32 → Int32 → Option (Unit × (S6))) (hrec56 : ∀ (M : S6) (x1 : Int32) (x2 : Int32) (x3 : Int32) (x4 : Int32) (r : Unit × (S6)), rec56 M x1 x2 x3 x4 = some r → ∀ (H : Heap) (locs : List Loc) (ls : Array Slot), va_P D vwCl (w6 aM K M) H → va_D A (w6 aM K M) → va_S A s.heap H locs → lv_has ls 6 [(0, .ref (aM 0)), (1, .int x1), (2, .int x2), (3, .int x3), (4, .int x4)] → W p l e (xR 2 49 (oX6_readCode aM K r)) s m args below meth c H locs 0 0 (xQ below args s D K A (oX6_readCode aM K r)) (F0 m 56 ls [])) : ∀ (M : S6) (x1 : Int32) (x2 : Int32) (x3 : Int32) (x4 : Int32) (t1 : Int32) (r : Unit × (S6)), fX6_readCode_129  rec56 M x1 x2 x3 x4 t1 = some r → ∀ (H : Heap) (locs : List Loc) (ls : Array Slot), va_P D vwCl (w6 aM K M) H → va_D A (w6 aM K M) → va_S A s.heap H locs → lv_has ls 6 [(0, .ref (aM 0)), (1, .int x1), (2, .int x2), (3, .int x3), (4, .int x4)] → W p l e (xR 2 49 (oX6_readCode aM K r)) s m args below meth c H locs 0 0 (xQ below args s D K A (oX6_readCode aM K r)) (F0 m 129 ls [.int t1, .ref (aM 0)]) := by
  obtain ⟨hx, hb, hr, hml, hown, hK, hts, hA, hG, hlk, hte, hnm⟩ := id C
  intro M x1 x2 x3 x4 t1 r h H locs ls hP hD hS hl
  replace h : (if t1 = 0 ∨ t1 = 1 then rec56 (M.1, M.2.1, M.2.2.1, M.2.2.2.1, t1, M.2.2.2.2.2.1, M.2.2.2.2.2.2.1, M.2.2.2.2.2.2.2.1, M.2.2.2.2.2.2.2.2.1, M.2.2.2.2.2.2.2.2.2.1, M.2.2.2.2.2.2.2.2.2.2.1, M.2.2.2.2.2.2.2.2.2.2.2.1, M.2.2.2.2.2.2.2.2.2.2.2.2.1, M.2.2.2.2.2.2.2.2.2.2.2.2.2.1, M.2.2.2.2.2.2.2.2.2.2.2.2.2.2.1, M.2.2.2.2.2.2.2.2.2.2.2.2.2.2.2.1, M.2.2.2.2.2.2.2.2.2.2.2.2.2.2.2.2.1, M.2.2.2.2.2.2.2.2.2.2.2.2.2.2.2.2.2.1, M.2.2.2.2.2.2.2.2.2.2.2.2.2.2.2.2.2.2.1, M.2.2.2.2.2.2.2.2.2.2.2.2.2.2.2.2.2.2.2.1, M.2.2.2.2.2.2.2.2.2.2.2.2.2.2.2.2.2.2.2.2) x1 x2 x3 (x4 + (1 : Int32)) else none) = some r := h
  obtain ⟨hz9, h⟩ := xi_b h
  refine va_put (D := D) (ci := 6) (v := .int t1) (ty := .boolean) (C := RX6) (T := TX6) (N := 21) hx hb hts xu_X6 tyX6 tyX6_ok nmX6 hown hK hP hD hS 0 rfl rfl 4 (by decide) (hts _ xw_511) (fun _ h9 => h9) rfl (by decide +kernel) hz9.1 hz9.2 (Nat.le_of_ble_eq_true rfl) dX6_readCode_129 (fun H locs hP hD hS => ?_)
  have hP : va_P D vwCl (w6 aM K (M.1, M.2.1, M.2.2.1, M.2.2.2.1, t1, M.2.2.2.2.2.1, M.2.2.2.2.2.2.1, M.2.2.2.2.2.2.2.1, M.2.2.2.2.2.2.2.2.1, M.2.2.2.2.2.2.2.2.2.1, M.2.2.2.2.2.2.2.2.2.2.1, M.2.2.2.2.2.2.2.2.2.2.2.1, M.2.2.2.2.2.2.2.2.2.2.2.2.1, M.2.2.2.2.2.2.2.2.2.2.2.2.2.1, M.2.2.2.2.2.2.2.2.2.2.2.2.2.2.1, M.2.2.2.2.2.2.2.2.2.2.2.2.2.2.2.1, M.2.2.2.2.2.2.2.2.2.2.2.2.2.2.2.2.1, M.2.2.2.2.2.2.2.2.2.2.2.2.2.2.2.2.2.1, M.2.2.2.2.2.2.2.2.2.2.2.2.2.2.2.2.2.2.1, M.2.2.2.2.2.2.2.2.2.2.2.2.2.2.2.2.2.2.2.1, M.2.2.2.2.2.2.2.2.2.2.2.2.2.2.2.2.2.2.2.2)) H := hP
  have hD : va_D A (w6 aM K (M.1, M.2.1, M.2.2.1, M.2.2.2.1, t1, M.2.2.2.2.2.1, M.2.2.2.2.2.2.1, M.2.2.2.2.2.2.2.1, M.2.2.2.2.2.2.2.2.1, M.2.2.2.2.2.2.2.2.2.1, M.2.2.2.2.2.2.2.2.2.2.1, M.2.2.2.2.2.2.2.2.2.2.2.1, M.2.2.2.2.2.2.2.2.2.2.2.2.1, M.2.2.2.2.2.2.2.2.2.2.2.2.2.1, M.2.2.2.2.2.2.2.2.2.2.2.2.2.2.1, M.2.2.2.2.2.2.2.2.2.2.2.2.2.2.2.1, M.2.2.2.2.2.2.2.2.2.2.2.2.2.2.2.2.1, M.2.2.2.2.2.2.2.2.2.2.2.2.2.2.2.2.2.1, M.2.2.2.2.2.2.2.2.2.2.2.2.2.2.2.2.2.2.1, M.2.2.2.2.2.2.2.2.2.2.2.2.2.2.2.2.2.2.2.1, M.2.2.2.2.2.2.2.2.2.2.2.2.2.2.2.2.2.2.2.2)) := hD
  refine lv_iinc (v := (x4 + (1 : Int32))) (lv' := [(4, .int (x4 + (1 : Int32))), (0, .ref (aM 0)), (1, .int x1), (2, .int x2), (3, .int x3)]) hx hb dX6_readCode_132 hl (k := 4) rfl (by rfl) (by decide) rfl (fun ls hl => ?_)
  refine lv_goto (tgt := 56) hx hb dX6_readCode_135 (by decide) ?_
  exact hrec56 _ _ _ _ _ _ h _ _ _ hP hD hS (lv_sub hl [1, 2, 3, 4, 0] rfl)
set_option maxHeartbeats 4000000 in
set_option maxRecDepth 100000 in
theorem kX6_readCode_110 {p : Program} {l : Launch} {e : Env} {s : State} {m : MethodId} {args : Array Value} {below : List Frame} {meth : Method} {c : Code} {D : va_G} {K : Nat → ClassId} {A : Nat → Prop} {aM : Nat → Nat} (C : xC p s m args meth c cX6_readCode 6 none yX6_readCode D K A []) (rec56 : S6 → Int32 → Int32 → Int32 → Int32 → Option (Unit × (S6))) (hrec56 : ∀ (M : S6) (x1 : Int32) (x2 : Int32) (x3 : Int32) (x4 : Int32) (r : Unit × (S6)), rec56 M x1 x2 x3 x4 = some r → ∀ (H : Heap) (locs : List Loc) (ls : Array Slot), va_P D vwCl (w6 aM K M) H → va_D A (w6 aM K M) → va_S A s.heap H locs → lv_has ls 6 [(0, .ref (aM 0)), (1, .int x1), (2, .int x2), (3, .int x3), (4, .int x4)] → W p l e (xR 2 49 (oX6_readCode aM K r)) s m args below meth c H locs 0 0 (xQ below args s D K A (oX6_readCode aM K r)) (F0 m 56 ls [])) : ∀ (M : S6) (x1 : Int32) (x2 : Int32) (x4 : Int32) (t0 : Int32) (t1 : Int32) (r : Unit × (S6)), fX6_readCode_110  rec56 M x1 x2 x4 t0 t1 = some r → ∀ (H : Heap) (locs : List Loc) (ls : Array Slot), va_P D vwCl (w6 aM K M) H → va_D A (w6 aM K M) → va_S A s.heap H locs → lv_has ls 6 [(0, .ref (aM 0)), (1, .int x1), (2, .int x2), (4, .int x4)] → W p l e (xR 2 49 (oX6_readCode aM K r)) s m args below meth c H locs 0 0 (xQ below args s D K A (oX6_readCode aM K r)) (F0 m 110 ls [.int t1, .int t0]) := by
  obtain ⟨hx, hb, hr, hml, hown, hK, hts, hA, hG, hlk, hte, hnm⟩ := id C
  intro M x1 x2 x4 t0 t1 r h H locs ls hP hD hS hl
  replace h : (if M.2.2.2.2.1 = 0 then (if 0 ≤ (t0 - t1) then fX6_readCode_129 rec56 M x1 x2 (t0 - t1) x4 (0 : Int32) else fX6_readCode_129 rec56 M x1 x2 (t0 - t1) x4 (1 : Int32)) else fX6_readCode_129 rec56 M x1 x2 (t0 - t1) x4 (1 : Int32)) = some r := h
  refine lv_isub hx hb dX6_readCode_110 ?_
  refine lv_istore_n (lv' := [(3, .int (t0 - t1)), (0, .ref (aM 0)), (1, .int x1), (2, .int x2), (4, .int x4)]) hx hb dX6_readCode_111 rfl hl (by decide) rfl (fun ls hl => ?_)
  refine lv_aload_n hx hb dX6_readCode_112 rfl (lv_at hl 1 rfl) ?_
  refine lv_aload_n hx hb dX6_readCode_113 rfl (lv_at hl 1 rfl) ?_
  refine va_get (D := D) (ci := 6) (v := .int M.2.2.2.2.1) (C := RX6) (T := TX6) (N := 21) hx hb hts xu_X6 hown hK hP 0 rfl rfl 4 (by decide) (hts _ xw_511) (fun _ h9 => h9) rfl dX6_readCode_114 ?_
  refine lv_if_ne (tgt := 124) hx hb dX6_readCode_117 (by decide) (fun c9 => ?_) (fun c9 => ?_)
  · replace h := xi_f c9 h
    refine lv_iconst (v := (1 : Int32)) hx hb dX6_readCode_124 (by decide) ?_
    refine lv_goto (tgt := 129) hx hb dX6_readCode_125 (by decide) ?_
    exact kX6_readCode_129 C _ hrec56 _ _ _ _ _ _ _ h _ _ _ hP hD hS (lv_sub hl [1, 2, 3, 0, 4] rfl)
  · replace h := xi_t c9 h
    refine lv_iload_n hx hb dX6_readCode_120 rfl (lv_at hl 0 rfl) ?_
    refine lv_if_ge (tgt := 128) hx hb dX6_readCode_121 (by decide) (fun c9 => ?_) (fun c9 => ?_)
    · replace h := xi_t c9 h
      refine lv_iconst (v := (0 : Int32)) hx hb dX6_readCode_128 (by decide) ?_
      exact kX6_readCode_129 C _ hrec56 _ _ _ _ _ _ _ h _ _ _ hP hD hS (lv_sub hl [1, 2, 3, 0, 4] rfl)
    · replace h := xi_f c9 h
      refine lv_iconst (v := (1 : Int32)) hx hb dX6_readCode_124 (by decide) ?_
      refine lv_goto (tgt := 129) hx hb dX6_readCode_125 (by decide) ?_
      exact kX6_readCode_129 C _ hrec56 _ _ _ _ _ _ _ h _ _ _ hP hD hS (lv_sub hl [1, 2, 3, 0, 4] rfl)
set_option maxHeartbeats 4000000 in
set_option maxRecDepth 100000 in
theorem kX6_readCode_56 {p : Program} {l : Launch} {e : Env} {s : State} {m : MethodId} {args : Array Value} {below : List Frame} {meth : Method} {c : Code} {D : va_G} {K : Nat → ClassId} {A : Nat → Prop} {aM : Nat → Nat} (C : xC p s m args meth c cX6_readCode 6 none yX6_readCode D K A []) : ∀ fu : Nat, ∀ (M : S6) (x1 : Int32) (x2 : Int32) (x3 : Int32) (x4 : Int32) (r : Unit × (S6)), fX6_readCode_56 fu M x1 x2 x3 x4 = some r → ∀ (H : Heap) (locs : List Loc) (ls : Array Slot), va_P D vwCl (w6 aM K M) H → va_D A (w6 aM K M) → va_S A s.heap H locs → lv_has ls 6 [(0, .ref (aM 0)), (1, .int x1), (2, .int x2), (3, .int x3), (4, .int x4)] → W p l e (xR 2 49 (oX6_readCode aM K r)) s m args below meth c H locs 0 0 (xQ below args s D K A (oX6_readCode aM K r)) (F0 m 56 ls []) := by
  obtain ⟨hx, hb, hr, hml, hown, hK, hts, hA, hG, hlk, hte, hnm⟩ := id C
  intro fu
  induction fu with
  | zero =>
    intro M x1 x2 x3 x4 r h
    exact nomatch (show (none : Option (Unit × (S6))) = some r from h)
  | succ fu ih =>
    intro M x1 x2 x3 x4 r h H locs ls hP hD hS hl
    replace h : (if x2 ≤ x4 then fX6_readCode_138 M x3 else (if x3 ≤ 0 then fX6_readCode_138 M x3 else (if M.2.2.2.2.1 = 0 then xbnd0 (fX6_number M (3 : Int32)) (fun v_5 s_6 => (if (((32 : Int32) * x1) + x4) < 0 ∨ 224 ≤ ((((32 : Int32) * x1) + x4)).toNatClampNeg then none else (if v_5 ≤ 0 then fX6_readCode_110 (fX6_readCode_56 fu) (s_6.1, s_6.2.1, s_6.2.2.1, s_6.2.2.2.1, s_6.2.2.2.2.1, s_6.2.2.2.2.2.1, s_6.2.2.2.2.2.2.1, s_6.2.2.2.2.2.2.2.1, s_6.2.2.2.2.2.2.2.2.1, s_6.2.2.2.2.2.2.2.2.2.1, s_6.2.2.2.2.2.2.2.2.2.2.1, (upd s_6.2.2.2.2.2.2.2.2.2.2.2.1 ((((32 : Int32) * x1) + x4)).toNatClampNeg v_5), s_6.2.2.2.2.2.2.2.2.2.2.2.2.1, s_6.2.2.2.2.2.2.2.2.2.2.2.2.2.1, s_6.2.2.2.2.2.2.2.2.2.2.2.2.2.2.1, s_6.2.2.2.2.2.2.2.2.2.2.2.2.2.2.2.1, s_6.2.2.2.2.2.2.2.2.2.2.2.2.2.2.2.2.1, s_6.2.2.2.2.2.2.2.2.2.2.2.2.2.2.2.2.2.1, s_6.2.2.2.2.2.2.2.2.2.2.2.2.2.2.2.2.2.2.1, s_6.2.2.2.2.2.2.2.2.2.2.2.2.2.2.2.2.2.2.2.1, s_6.2.2.2.2.2.2.2.2.2.2.2.2.2.2.2.2.2.2.2.2) x1 x2 x4 x3 (0 : Int32) else fX6_readCode_110 (fX6_readCode_56 fu) (s_6.1, s_6.2.1, s_6.2.2.1, s_6.2.2.2.1, s_6.2.2.2.2.1, s_6.2.2.2.2.2.1, s_6.2.2.2.2.2.2.1, s_6.2.2.2.2.2.2.2.1, s_6.2.2.2.2.2.2.2.2.1, s_6.2.2.2.2.2.2.2.2.2.1, s_6.2.2.2.2.2.2.2.2.2.2.1, (upd s_6.2.2.2.2.2.2.2.2.2.2.2.1 ((((32 : Int32) * x1) + x4)).toNatClampNeg v_5), s_6.2.2.2.2.2.2.2.2.2.2.2.2.1, s_6.2.2.2.2.2.2.2.2.2.2.2.2.2.1, s_6.2.2.2.2.2.2.2.2.2.2.2.2.2.2.1, s_6.2.2.2.2.2.2.2.2.2.2.2.2.2.2.2.1, s_6.2.2.2.2.2.2.2.2.2.2.2.2.2.2.2.2.1, s_6.2.2.2.2.2.2.2.2.2.2.2.2.2.2.2.2.2.1, s_6.2.2.2.2.2.2.2.2.2.2.2.2.2.2.2.2.2.2.1, s_6.2.2.2.2.2.2.2.2.2.2.2.2.2.2.2.2.2.2.2.1, s_6.2.2.2.2.2.2.2.2.2.2.2.2.2.2.2.2.2.2.2.2) x1 x2 x4 x3 ((128 : Int32) >>> (v_5 &&& 31))))) else fX6_readCode_138 M x3))) = some r := h
    refine lv_iload hx hb dX6_readCode_56 (lv_at hl 4 rfl) ?_
    refine lv_iload_n hx hb dX6_readCode_58 rfl (lv_at hl 2 rfl) ?_
    refine lv_icmp_ge (tgt := 138) hx hb dX6_readCode_59 (by decide) (fun c9 => ?_) (fun c9 => ?_)
    · replace h := xi_t c9 h
      exact kX6_readCode_138 C _ _ _ h _ _ _ hP hD hS (lv_sub hl [0, 3] rfl)
    · replace h := xi_f c9 h
      refine lv_iload_n hx hb dX6_readCode_62 rfl (lv_at hl 3 rfl) ?_
      refine lv_if_le (tgt := 138) hx hb dX6_readCode_63 (by decide) (fun c9 => ?_) (fun c9 => ?_)
      · replace h := xi_t c9 h
        exact kX6_readCode_138 C _ _ _ h _ _ _ hP hD hS (lv_sub hl [0, 3] rfl)
      · replace h := xi_f c9 h
        refine lv_aload_n hx hb dX6_readCode_66 rfl (lv_at hl 0 rfl) ?_
        refine va_get (D := D) (ci := 6) (v := .int M.2.2.2.2.1) (C := RX6) (T := TX6) (N := 21) hx hb hts xu_X6 hown hK hP 0 rfl rfl 4 (by decide) (hts _ xw_511) (fun _ h9 => h9) rfl dX6_readCode_67 ?_
        refine lv_if_ne (tgt := 138) hx hb dX6_readCode_70 (by decide) (fun c9 => ?_) (fun c9 => ?_)
        · replace h := xi_f c9 h
          exact kX6_readCode_138 C _ _ _ h _ _ _ hP hD hS (lv_sub hl [0, 3] rfl)
        · replace h := xi_t c9 h
          refine lv_aload_n hx hb dX6_readCode_73 rfl (lv_at hl 0 rfl) ?_
          refine lv_iconst (v := (3 : Int32)) hx hb dX6_readCode_74 (by decide) ?_
          obtain ⟨v_5, s_6, hc9, h⟩ := xi_d h
          refine xc_V (As := [.int (3 : Int32)]) (ws' := w6 aM K s_6) C (mX6_number l D K aM _ _ _ _ hc9) xgi_X6_66 xd_X6_number ⟨Nat.le_of_ble_eq_true rfl, Nat.le_of_ble_eq_true rfl⟩ ⟨Nat.zero_le _, Nat.zero_le _⟩ hl rfl (Nat.le_of_ble_eq_true rfl) dX6_readCode_75 hP hD hS 0 6 rfl rfl rfl [0, 1, 2, 3, 4, 5, 6, 7, 8, 9, 10, 11] rfl rfl [(0, w6 aM K s_6)] rfl rfl rfl (List.forall_mem_cons.mpr ⟨Nat.le_of_ble_eq_true rfl, (fun _ h => absurd h List.not_mem_nil)⟩) (fun H locs hP hD hS => ?_)
          refine W.eq (g2 := F0 m 78 ls [.int v_5]) rfl ?_
          refine lv_istore (lv' := [(5, .int v_5), (0, .ref (aM 0)), (1, .int x1), (2, .int x2), (3, .int x3), (4, .int x4)]) hx hb dX6_readCode_78 hl (by decide) rfl (fun ls hl => ?_)
          refine lv_aload_n hx hb dX6_readCode_80 rfl (lv_at hl 1 rfl) ?_
          refine va_get (D := D) (ci := 6) (v := .ref (aM 6)) (C := RX6) (T := TX6) (N := 21) hx hb hts xu_X6 hown hK hP 0 rfl rfl 11 (by decide) (hts _ xw_518) (fun _ h9 => h9) rfl dX6_readCode_81 ?_
          refine lv_bipush (v := (32 : Int32)) hx hb dX6_readCode_84 (by decide) ?_
          refine lv_iload_n hx hb dX6_readCode_86 rfl (lv_at hl 2 rfl) ?_
          refine lv_imul hx hb dX6_readCode_87 ?_
          refine lv_iload hx hb dX6_readCode_88 (lv_at hl 5 rfl) ?_
          refine lv_iadd hx hb dX6_readCode_90 ?_
          refine lv_iload hx hb dX6_readCode_91 (lv_at hl 0 rfl) ?_
          obtain ⟨hi9, h⟩ := xi_g h
          refine va_iast hx hb hK hP hD hS 6 0 rfl rfl hi9 dX6_readCode_93 (fun H locs hP hD hS => ?_)
          have hP : va_P D vwCl (w6 aM K (s_6.1, s_6.2.1, s_6.2.2.1, s_6.2.2.2.1, s_6.2.2.2.2.1, s_6.2.2.2.2.2.1, s_6.2.2.2.2.2.2.1, s_6.2.2.2.2.2.2.2.1, s_6.2.2.2.2.2.2.2.2.1, s_6.2.2.2.2.2.2.2.2.2.1, s_6.2.2.2.2.2.2.2.2.2.2.1, (upd s_6.2.2.2.2.2.2.2.2.2.2.2.1 ((((32 : Int32) * x1) + x4)).toNatClampNeg v_5), s_6.2.2.2.2.2.2.2.2.2.2.2.2.1, s_6.2.2.2.2.2.2.2.2.2.2.2.2.2.1, s_6.2.2.2.2.2.2.2.2.2.2.2.2.2.2.1, s_6.2.2.2.2.2.2.2.2.2.2.2.2.2.2.2.1, s_6.2.2.2.2.2.2.2.2.2.2.2.2.2.2.2.2.1, s_6.2.2.2.2.2.2.2.2.2.2.2.2.2.2.2.2.2.1, s_6.2.2.2.2.2.2.2.2.2.2.2.2.2.2.2.2.2.2.1, s_6.2.2.2.2.2.2.2.2.2.2.2.2.2.2.2.2.2.2.2.1, s_6.2.2.2.2.2.2.2.2.2.2.2.2.2.2.2.2.2.2.2.2)) H := hP
          have hD : va_D A (w6 aM K (s_6.1, s_6.2.1, s_6.2.2.1, s_6.2.2.2.1, s_6.2.2.2.2.1, s_6.2.2.2.2.2.1, s_6.2.2.2.2.2.2.1, s_6.2.2.2.2.2.2.2.1, s_6.2.2.2.2.2.2.2.2.1, s_6.2.2.2.2.2.2.2.2.2.1, s_6.2.2.2.2.2.2.2.2.2.2.1, (upd s_6.2.2.2.2.2.2.2.2.2.2.2.1 ((((32 : Int32) * x1) + x4)).toNatClampNeg v_5), s_6.2.2.2.2.2.2.2.2.2.2.2.2.1, s_6.2.2.2.2.2.2.2.2.2.2.2.2.2.1, s_6.2.2.2.2.2.2.2.2.2.2.2.2.2.2.1, s_6.2.2.2.2.2.2.2.2.2.2.2.2.2.2.2.1, s_6.2.2.2.2.2.2.2.2.2.2.2.2.2.2.2.2.1, s_6.2.2.2.2.2.2.2.2.2.2.2.2.2.2.2.2.2.1, s_6.2.2.2.2.2.2.2.2.2.2.2.2.2.2.2.2.2.2.1, s_6.2.2.2.2.2.2.2.2.2.2.2.2.2.2.2.2.2.2.2.1, s_6.2.2.2.2.2.2.2.2.2.2.2.2.2.2.2.2.2.2.2.2)) := hD
          refine lv_iload_n hx hb dX6_readCode_94 rfl (lv_at hl 4 rfl) ?_
          refine lv_iload hx hb dX6_readCode_95 (lv_at hl 0 rfl) ?_
          refine lv_if_le (tgt := 109) hx hb dX6_readCode_97 (by decide) (fun c9 => ?_) (fun c9 => ?_)
          · replace h := xi_t c9 h
            refine lv_iconst (v := (0 : Int32)) hx hb dX6_readCode_109 (by decide) ?_
            exact kX6_readCode_110 C _ ih _ _ _ _ _ _ _ h _ _ _ hP hD hS (lv_sub hl [1, 2, 3, 5] rfl)
          · replace h := xi_f c9 h
            refine lv_sipush (v := (128 : Int32)) hx hb dX6_readCode_100 (by decide) ?_
            refine lv_iload hx hb dX6_readCode_103 (lv_at hl 0 rfl) ?_
            refine lv_ishr hx hb dX6_readCode_105 ?_
            refine lv_goto (tgt := 110) hx hb dX6_readCode_106 (by decide) ?_
            exact kX6_readCode_110 C _ ih _ _ _ _ _ _ _ h _ _ _ hP hD hS (lv_sub hl [1, 2, 3, 5] rfl)
set_option maxHeartbeats 4000000 in
set_option maxRecDepth 100000 in
theorem kX6_readCode_2 {p : Program} {l : Launch} {e : Env} {s : State} {m : MethodId} {args : Array Value} {below : List Frame} {meth : Method} {c : Code} {D : va_G} {K : Nat → ClassId} {A : Nat → Prop} {aM : Nat → Nat} (C : xC p s m args meth c cX6_readCode 6 none yX6_readCode D K A []) : ∀ fu : Nat, ∀ (M : S6) (x1 : Int32) (x2 : Int32) (x3 : Int32) (r : Unit × (S6)), fX6_readCode_2 fu M x1 x2 x3 = some r → ∀ (H : Heap) (locs : List Loc) (ls : Array Slot), va_P D vwCl (w6 aM K M) H → va_D A (w6 aM K M) → va_S A s.heap H locs → lv_has ls 6 [(0, .ref (aM 0)), (1, .int x1), (2, .int x2), (3, .int x3)] → W p l e (xR 2 49 (oX6_readCode aM K r)) s m args below meth c H locs 0 0 (xQ below args s D K A (oX6_readCode aM K r)) (F0 m 2 ls []) := by
  obtain ⟨hx, hb, hr, hml, hown, hK, hts, hA, hG, hlk, hte, hnm⟩ := id C
  intro fu
  induction fu with
  | zero =>
    intro M x1 x2 x3 r h
    exact nomatch (show (none : Option (Unit × (S6))) = some r from h)
  | succ fu ih =>
    intro M x1 x2 x3 r h H locs ls hP hD hS hl
    replace h : (if (32 : Int32) ≤ x3 then (if x1 < 0 ∨ 7 ≤ (x1).toNatClampNeg then none else xbnd0 (fX6_number (M.1, M.2.1, M.2.2.1, M.2.2.2.1, M.2.2.2.2.1, M.2.2.2.2.2.1, M.2.2.2.2.2.2.1, M.2.2.2.2.2.2.2.1, M.2.2.2.2.2.2.2.2.1, M.2.2.2.2.2.2.2.2.2.1, M.2.2.2.2.2.2.2.2.2.2.1, M.2.2.2.2.2.2.2.2.2.2.2.1, (upd M.2.2.2.2.2.2.2.2.2.2.2.2.1 (x1).toNatClampNeg (-1 : Int32)), M.2.2.2.2.2.2.2.2.2.2.2.2.2.1, M.2.2.2.2.2.2.2.2.2.2.2.2.2.2.1, M.2.2.2.2.2.2.2.2.2.2.2.2.2.2.2.1, M.2.2.2.2.2.2.2.2.2.2.2.2.2.2.2.2.1, M.2.2.2.2.2.2.2.2.2.2.2.2.2.2.2.2.2.1, M.2.2.2.2.2.2.2.2.2.2.2.2.2.2.2.2.2.2.1, M.2.2.2.2.2.2.2.2.2.2.2.2.2.2.2.2.2.2.2.1, M.2.2.2.2.2.2.2.2.2.2.2.2.2.2.2.2.2.2.2.2) (1 : Int32)) (fun v_1 s_2 => (if v_1 = (1 : Int32) then xbnd0 (fX6_readSimple s_2 x1 x2) (fun v_3 s_4 => some ((), s_4)) else fX6_readCode_56 xF s_2 x1 x2 (128 : Int32) (0 : Int32)))) else (if (((32 : Int32) * x1) + x3) < 0 ∨ 224 ≤ ((((32 : Int32) * x1) + x3)).toNatClampNeg then none else fX6_readCode_2 fu (M.1, M.2.1, M.2.2.1, M.2.2.2.1, M.2.2.2.2.1, M.2.2.2.2.2.1, M.2.2.2.2.2.2.1, M.2.2.2.2.2.2.2.1, M.2.2.2.2.2.2.2.2.1, M.2.2.2.2.2.2.2.2.2.1, M.2.2.2.2.2.2.2.2.2.2.1, (upd M.2.2.2.2.2.2.2.2.2.2.2.1 ((((32 : Int32) * x1) + x3)).toNatClampNeg (0 : Int32)), M.2.2.2.2.2.2.2.2.2.2.2.2.1, M.2.2.2.2.2.2.2.2.2.2.2.2.2.1, M.2.2.2.2.2.2.2.2.2.2.2.2.2.2.1, M.2.2.2.2.2.2.2.2.2.2.2.2.2.2.2.1, M.2.2.2.2.2.2.2.2.2.2.2.2.2.2.2.2.1, M.2.2.2.2.2.2.2.2.2.2.2.2.2.2.2.2.2.1, M.2.2.2.2.2.2.2.2.2.2.2.2.2.2.2.2.2.2.1, M.2.2.2.2.2.2.2.2.2.2.2.2.2.2.2.2.2.2.2.1, M.2.2.2.2.2.2.2.2.2.2.2.2.2.2.2.2.2.2.2.2) x1 x2 (x3 + (1 : Int32)))) = some r := h
    refine lv_iload_n hx hb dX6_readCode_2 rfl (lv_at hl 3 rfl) ?_
    refine lv_bipush (v := (32 : Int32)) hx hb dX6_readCode_3 (by decide) ?_
    refine lv_icmp_ge (tgt := 26) hx hb dX6_readCode_5 (by decide) (fun c9 => ?_) (fun c9 => ?_)
    · replace h := xi_t c9 h
      refine lv_aload_n hx hb dX6_readCode_26 rfl (lv_at hl 0 rfl) ?_
      refine va_get (D := D) (ci := 6) (v := .ref (aM 7)) (C := RX6) (T := TX6) (N := 21) hx hb hts xu_X6 hown hK hP 0 rfl rfl 12 (by decide) (hts _ xw_519) (fun _ h9 => h9) rfl dX6_readCode_27 ?_
      refine lv_iload_n hx hb dX6_readCode_30 rfl (lv_at hl 1 rfl) ?_
      refine lv_iconst (v := (-1 : Int32)) hx hb dX6_readCode_31 (by decide) ?_
      obtain ⟨hi9, h⟩ := xi_g h
      refine va_iast hx hb hK hP hD hS 7 0 rfl rfl hi9 dX6_readCode_32 (fun H locs hP hD hS => ?_)
      have hP : va_P D vwCl (w6 aM K (M.1, M.2.1, M.2.2.1, M.2.2.2.1, M.2.2.2.2.1, M.2.2.2.2.2.1, M.2.2.2.2.2.2.1, M.2.2.2.2.2.2.2.1, M.2.2.2.2.2.2.2.2.1, M.2.2.2.2.2.2.2.2.2.1, M.2.2.2.2.2.2.2.2.2.2.1, M.2.2.2.2.2.2.2.2.2.2.2.1, (upd M.2.2.2.2.2.2.2.2.2.2.2.2.1 (x1).toNatClampNeg (-1 : Int32)), M.2.2.2.2.2.2.2.2.2.2.2.2.2.1, M.2.2.2.2.2.2.2.2.2.2.2.2.2.2.1, M.2.2.2.2.2.2.2.2.2.2.2.2.2.2.2.1, M.2.2.2.2.2.2.2.2.2.2.2.2.2.2.2.2.1, M.2.2.2.2.2.2.2.2.2.2.2.2.2.2.2.2.2.1, M.2.2.2.2.2.2.2.2.2.2.2.2.2.2.2.2.2.2.1, M.2.2.2.2.2.2.2.2.2.2.2.2.2.2.2.2.2.2.2.1, M.2.2.2.2.2.2.2.2.2.2.2.2.2.2.2.2.2.2.2.2)) H := hP
      have hD : va_D A (w6 aM K (M.1, M.2.1, M.2.2.1, M.2.2.2.1, M.2.2.2.2.1, M.2.2.2.2.2.1, M.2.2.2.2.2.2.1, M.2.2.2.2.2.2.2.1, M.2.2.2.2.2.2.2.2.1, M.2.2.2.2.2.2.2.2.2.1, M.2.2.2.2.2.2.2.2.2.2.1, M.2.2.2.2.2.2.2.2.2.2.2.1, (upd M.2.2.2.2.2.2.2.2.2.2.2.2.1 (x1).toNatClampNeg (-1 : Int32)), M.2.2.2.2.2.2.2.2.2.2.2.2.2.1, M.2.2.2.2.2.2.2.2.2.2.2.2.2.2.1, M.2.2.2.2.2.2.2.2.2.2.2.2.2.2.2.1, M.2.2.2.2.2.2.2.2.2.2.2.2.2.2.2.2.1, M.2.2.2.2.2.2.2.2.2.2.2.2.2.2.2.2.2.1, M.2.2.2.2.2.2.2.2.2.2.2.2.2.2.2.2.2.2.1, M.2.2.2.2.2.2.2.2.2.2.2.2.2.2.2.2.2.2.2.1, M.2.2.2.2.2.2.2.2.2.2.2.2.2.2.2.2.2.2.2.2)) := hD
      refine lv_aload_n hx hb dX6_readCode_33 rfl (lv_at hl 0 rfl) ?_
      refine lv_iconst (v := (1 : Int32)) hx hb dX6_readCode_34 (by decide) ?_
      obtain ⟨v_1, s_2, hc9, h⟩ := xi_d h
      refine xc_V (As := [.int (1 : Int32)]) (ws' := w6 aM K s_2) C (mX6_number l D K aM _ _ _ _ hc9) xgi_X6_66 xd_X6_number ⟨Nat.le_of_ble_eq_true rfl, Nat.le_of_ble_eq_true rfl⟩ ⟨Nat.zero_le _, Nat.zero_le _⟩ hl rfl (Nat.le_of_ble_eq_true rfl) dX6_readCode_35 hP hD hS 0 6 rfl rfl rfl [0, 1, 2, 3, 4, 5, 6, 7, 8, 9, 10, 11] rfl rfl [(0, w6 aM K s_2)] rfl rfl rfl (List.forall_mem_cons.mpr ⟨Nat.le_of_ble_eq_true rfl, (fun _ h => absurd h List.not_mem_nil)⟩) (fun H locs hP hD hS => ?_)
      refine W.eq (g2 := F0 m 38 ls [.int v_1]) rfl ?_
      refine lv_iconst (v := (1 : Int32)) hx hb dX6_readCode_38 (by decide) ?_
      refine lv_icmp_ne (tgt := 49) hx hb dX6_readCode_39 (by decide) (fun c9 => ?_) (fun c9 => ?_)
      · replace h := xi_f c9 h
        refine lv_sipush (v := (128 : Int32)) hx hb dX6_readCode_49 (by decide) ?_
        refine lv_istore_n (lv' := [(3, .int (128 : Int32)), (0, .ref (aM 0)), (1, .int x1), (2, .int x2)]) hx hb dX6_readCode_52 rfl hl (by decide) rfl (fun ls hl => ?_)
        refine lv_iconst (v := (0 : Int32)) hx hb dX6_readCode_53 (by decide) ?_
        refine lv_istore (lv' := [(4, .int (0 : Int32)), (3, .int (128 : Int32)), (0, .ref (aM 0)), (1, .int x1), (2, .int x2)]) hx hb dX6_readCode_54 hl (by decide) rfl (fun ls hl => ?_)
        exact kX6_readCode_56 C _ _ _ _ _ _ _ h _ _ _ hP hD hS (lv_sub hl [2, 3, 4, 1, 0] rfl)
      · replace h := xi_t c9 h
        refine lv_aload_n hx hb dX6_readCode_42 rfl (lv_at hl 0 rfl) ?_
        refine lv_iload_n hx hb dX6_readCode_43 rfl (lv_at hl 1 rfl) ?_
        refine lv_iload_n hx hb dX6_readCode_44 rfl (lv_at hl 2 rfl) ?_
        obtain ⟨v_3, s_4, hc9, h⟩ := xi_d h
        refine xc_V (As := [.int x1, .int x2]) (ws' := w6 aM K s_4) C (mX6_readSimple l D K aM _ _ _ _ _ hc9) xgi_X6_73 xd_X6_readSimple ⟨Nat.le_of_ble_eq_true rfl, Nat.le_of_ble_eq_true rfl⟩ ⟨Nat.zero_le _, Nat.zero_le _⟩ hl rfl (Nat.le_of_ble_eq_true rfl) dX6_readCode_45 hP hD hS 0 6 rfl rfl rfl [0, 1, 2, 3, 4, 5, 6, 7, 8, 9, 10, 11] rfl rfl [(0, w6 aM K s_4)] rfl rfl rfl (List.forall_mem_cons.mpr ⟨Nat.le_of_ble_eq_true rfl, (fun _ h => absurd h List.not_mem_nil)⟩) (fun H locs hP hD hS => ?_)
        refine W.eq (g2 := F0 m 48 ls []) rfl ?_
        obtain rfl := Option.some.inj h
        exact xe_v C hP hD hS dX6_readCode_48
    · replace h := xi_f c9 h
      refine lv_aload_n hx hb dX6_readCode_8 rfl (lv_at hl 0 rfl) ?_
      refine va_get (D := D) (ci := 6) (v := .ref (aM 6)) (C := RX6) (T := TX6) (N := 21) hx hb hts xu_X6 hown hK hP 0 rfl rfl 11 (by decide) (hts _ xw_518) (fun _ h9 => h9) rfl dX6_readCode_9 ?_
      refine lv_bipush (v := (32 : Int32)) hx hb dX6_readCode_12 (by decide) ?_
      refine lv_iload_n hx hb dX6_readCode_14 rfl (lv_at hl 1 rfl) ?_
      refine lv_imul hx hb dX6_readCode_15 ?_
      refine lv_iload_n hx hb dX6_readCode_16 rfl (lv_at hl 3 rfl) ?_
      refine lv_iadd hx hb dX6_readCode_17 ?_
      refine lv_iconst (v := (0 : Int32)) hx hb dX6_readCode_18 (by decide) ?_
      obtain ⟨hi9, h⟩ := xi_g h
      refine va_iast hx hb hK hP hD hS 6 0 rfl rfl hi9 dX6_readCode_19 (fun H locs hP hD hS => ?_)
      have hP : va_P D vwCl (w6 aM K (M.1, M.2.1, M.2.2.1, M.2.2.2.1, M.2.2.2.2.1, M.2.2.2.2.2.1, M.2.2.2.2.2.2.1, M.2.2.2.2.2.2.2.1, M.2.2.2.2.2.2.2.2.1, M.2.2.2.2.2.2.2.2.2.1, M.2.2.2.2.2.2.2.2.2.2.1, (upd M.2.2.2.2.2.2.2.2.2.2.2.1 ((((32 : Int32) * x1) + x3)).toNatClampNeg (0 : Int32)), M.2.2.2.2.2.2.2.2.2.2.2.2.1, M.2.2.2.2.2.2.2.2.2.2.2.2.2.1, M.2.2.2.2.2.2.2.2.2.2.2.2.2.2.1, M.2.2.2.2.2.2.2.2.2.2.2.2.2.2.2.1, M.2.2.2.2.2.2.2.2.2.2.2.2.2.2.2.2.1, M.2.2.2.2.2.2.2.2.2.2.2.2.2.2.2.2.2.1, M.2.2.2.2.2.2.2.2.2.2.2.2.2.2.2.2.2.2.1, M.2.2.2.2.2.2.2.2.2.2.2.2.2.2.2.2.2.2.2.1, M.2.2.2.2.2.2.2.2.2.2.2.2.2.2.2.2.2.2.2.2)) H := hP
      have hD : va_D A (w6 aM K (M.1, M.2.1, M.2.2.1, M.2.2.2.1, M.2.2.2.2.1, M.2.2.2.2.2.1, M.2.2.2.2.2.2.1, M.2.2.2.2.2.2.2.1, M.2.2.2.2.2.2.2.2.1, M.2.2.2.2.2.2.2.2.2.1, M.2.2.2.2.2.2.2.2.2.2.1, (upd M.2.2.2.2.2.2.2.2.2.2.2.1 ((((32 : Int32) * x1) + x3)).toNatClampNeg (0 : Int32)), M.2.2.2.2.2.2.2.2.2.2.2.2.1, M.2.2.2.2.2.2.2.2.2.2.2.2.2.1, M.2.2.2.2.2.2.2.2.2.2.2.2.2.2.1, M.2.2.2.2.2.2.2.2.2.2.2.2.2.2.2.1, M.2.2.2.2.2.2.2.2.2.2.2.2.2.2.2.2.1, M.2.2.2.2.2.2.2.2.2.2.2.2.2.2.2.2.2.1, M.2.2.2.2.2.2.2.2.2.2.2.2.2.2.2.2.2.2.1, M.2.2.2.2.2.2.2.2.2.2.2.2.2.2.2.2.2.2.2.1, M.2.2.2.2.2.2.2.2.2.2.2.2.2.2.2.2.2.2.2.2)) := hD
      refine lv_iinc (v := (x3 + (1 : Int32))) (lv' := [(3, .int (x3 + (1 : Int32))), (0, .ref (aM 0)), (1, .int x1), (2, .int x2)]) hx hb dX6_readCode_20 hl (k := 3) rfl (by rfl) (by decide) rfl (fun ls hl => ?_)
      refine lv_goto (tgt := 2) hx hb dX6_readCode_23 (by decide) ?_
      exact ih _ _ _ _ _ h _ _ _ hP hD hS (lv_sub hl [1, 2, 3, 0] rfl)
set_option maxHeartbeats 4000000 in
set_option maxRecDepth 100000 in
theorem mX6_readCode (l : Launch) (D : va_G) (K : Nat → ClassId) (aM : Nat → Nat) (sz : Nat) (M : S6) (p1 : Int32) (p2 : Int32) (r : Unit × (S6)) (h : fX6_readCode M p1 p2 = some r) : xMet l yX6_readCode cX6_readCode 6 none 2 49 D K [.ref (aM 0), .int p1, .int p2] sz (w6 aM K M) (oX6_readCode aM K r) := by
  refine xm_of _ (by decide +kernel) (Nat.le_of_ble_eq_true rfl) (fun p e s m args below meth c A C hP hD ls hl => ?_)
  have hl : lv_has ls 6 [(0, .ref (aM 0)), (1, .int p1), (2, .int p2)] := hl
  have hS : va_S A s.heap s.heap [] := va_S.rf
  obtain ⟨hx, hb, hr, hml, hown, hK, hts, hA, hG, hlk, hte, hnm⟩ := id C
  replace h : fX6_readCode_2 xF M p1 p2 (0 : Int32) = some r := h
  refine lv_iconst (v := (0 : Int32)) hx hb dX6_readCode_0 (by decide) ?_
  refine lv_istore_n (lv' := [(3, .int (0 : Int32)), (0, .ref (aM 0)), (1, .int p1), (2, .int p2)]) hx hb dX6_readCode_1 rfl hl (by decide) rfl (fun ls hl => ?_)
  exact kX6_readCode_2 C _ _ _ _ _ _ h _ _ _ hP hD hS (lv_sub hl [1, 2, 3, 0] rfl)
abbrev oX6_wordOf (aM : Nat → Nat) (K : Nat → ClassId) (q : Int32 × (S6)) : xO := .inr ((some (.int q.1)), w6 aM K q.2)
def fX6_wordOf_74 (rec18 : S6 → Int32 → Int32 → Int32 → Int32 → Int32 → Option (Int32 × (S6))) (M : S6) (x1 : Int32) (x2 : Int32) (x3 : Int32) (x5 : Int32) (t0 : Int32) (t1 : Int32) : Option (Int32 × (S6)) := rec18 M x1 x2 x3 (t0 + t1) (x5 + (1 : Int32))
def fX6_wordOf_73 (rec18 : S6 → Int32 → Int32 → Int32 → Int32 → Int32 → Option (Int32 × (S6))) (M : S6) (x1 : Int32) (x2 : Int32) (x3 : Int32) (x5 : Int32) (t0 : Int32) : Option (Int32 × (S6)) := fX6_wordOf_74 rec18 M x1 x2 x3 x5 t0 (0 : Int32)
def fX6_wordOf_64 (rec18 : S6 → Int32 → Int32 → Int32 → Int32 → Int32 → Option (Int32 × (S6))) (M : S6) (x1 : Int32) (x2 : Int32) (x3 : Int32) (x5 : Int32) (x6 : Int32) (t0 : Int32) : Option (Int32 × (S6)) := fX6_wordOf_74 rec18 M x1 x2 x3 x5 t0 ((1 : Int32) <<< ((x3 - x6) &&& 31))
def fX6_wordOf_18 : Nat → S6 → Int32 → Int32 → Int32 → Int32 → Int32 → Option (Int32 × (S6))
  | 0 => fun _ _ _ _ _ _ => none
  | fu + 1 => fun M x1 x2 x3 x4 x5 => (if (32 : Int32) ≤ x5 then some (x4, M) else (if (((32 : Int32) * x1) + x5) < 0 ∨ 224 ≤ ((((32 : Int32) * x1) + x5)).toNatClampNeg then none else (if (M.2.2.2.2.2.2.2.2.2.2.2.1 ((((32 : Int32) * x1) + x5)).toNatClampNeg) ≤ 0 then fX6_wordOf_73 (fX6_wordOf_18 fu) M x1 x2 x3 x5 x4 else (if (M.2.2.2.2.2.2.2.2.2.2.2.1 ((((32 : Int32) * x1) + x5)).toNatClampNeg) < x3 then fX6_wordOf_64 (fX6_wordOf_18 fu) M x1 x2 x3 x5 (M.2.2.2.2.2.2.2.2.2.2.2.1 ((((32 : Int32) * x1) + x5)).toNatClampNeg) x4 else (if (M.2.2.2.2.2.2.2.2.2.2.2.1 ((((32 : Int32) * x1) + x5)).toNatClampNeg) = x3 then (if x2 ≤ x5 then fX6_wordOf_73 (fX6_wordOf_18 fu) M x1 x2 x3 x5 x4 else fX6_wordOf_64 (fX6_wordOf_18 fu) M x1 x2 x3 x5 (M.2.2.2.2.2.2.2.2.2.2.2.1 ((((32 : Int32) * x1) + x5)).toNatClampNeg) x4) else fX6_wordOf_73 (fX6_wordOf_18 fu) M x1 x2 x3 x5 x4)))))
def fX6_wordOf (M : S6) (p1 : Int32) (p2 : Int32) : Option (Int32 × (S6)) := (if (((32 : Int32) * p1) + p2) < 0 ∨ 224 ≤ ((((32 : Int32) * p1) + p2)).toNatClampNeg then none else fX6_wordOf_18 xF M p1 p2 (M.2.2.2.2.2.2.2.2.2.2.2.1 ((((32 : Int32) * p1) + p2)).toNatClampNeg) (0 : Int32) (0 : Int32))
set_option maxHeartbeats 4000000 in
set_option maxRecDepth 100000 in
theorem kX6_wordOf_74 {p : Program} {l : Launch} {e : Env} {s : State} {m : MethodId} {args : Array Value} {below : List Frame} {meth : Method} {c : Code} {D : va_G} {K : Nat → ClassId} {A : Nat → Prop} {aM : Nat → Nat} (C : xC p s m args meth c cX6_wordOf 7 (some .int) yX6_wordOf D K A []) (rec18 : S6 → Int32 → Int32 → Int32 → Int32 → Int32 → Option (Int32 × (S6))) (hrec18 : ∀ (M : S6) (x1 : Int32) (x2 : Int32) (x3 : Int32) (x4 : Int32) (x5 : Int32) (r : Int32 × (S6)), rec18 M x1 x2 x3 x4 x5 = some r → ∀ (H : Heap) (locs : List Loc) (ls : Array Slot), va_P D vwCl (w6 aM K M) H → va_D A (w6 aM K M) → va_S A s.heap H locs → lv_has ls 7 [(0, .ref (aM 0)), (1, .int x1), (2, .int x2), (3, .int x3), (4, .int x4), (5, .int x5)] → W p l e (xR 0 0 (oX6_wordOf aM K r)) s m args below meth c H locs 0 0 (xQ below args s D K A (oX6_wordOf aM K r)) (F0 m 18 ls [])) : ∀ (M : S6) (x1 : Int32) (x2 : Int32) (x3 : Int32) (x5 : Int32) (t0 : Int32) (t1 : Int32) (r : Int32 × (S6)), fX6_wordOf_74  rec18 M x1 x2 x3 x5 t0 t1 = some r → ∀ (H : Heap) (locs : List Loc) (ls : Array Slot), va_P D vwCl (w6 aM K M) H → va_D A (w6 aM K M) → va_S A s.heap H locs → lv_has ls 7 [(0, .ref (aM 0)), (1, .int x1), (2, .int x2), (3, .int x3), (5, .int x5)] → W p l e (xR 0 0 (oX6_wordOf aM K r)) s m args below meth c H locs 0 0 (xQ below args s D K A (oX6_wordOf aM K r)) (F0 m 74 ls [.int t1, .int t0]) := by
  obtain ⟨hx, hb, hr, hml, hown, hK, hts, hA, hG, hlk, hte, hnm⟩ := id C
  intro M x1 x2 x3 x5 t0 t1 r h H locs ls hP hD hS hl
  replace h : rec18 M x1 x2 x3 (t0 + t1) (x5 + (1 : Int32)) = some r := h
  refine lv_iadd hx hb dX6_wordOf_74 ?_
  refine lv_istore (lv' := [(4, .int (t0 + t1)), (0, .ref (aM 0)), (1, .int x1), (2, .int x2), (3, .int x3), (5, .int x5)]) hx hb dX6_wordOf_75 hl (by decide) rfl (fun ls hl => ?_)
  refine lv_iinc (v := (x5 + (1 : Int32))) (lv' := [(5, .int (x5 + (1 : Int32))), (4, .int (t0 + t1)), (0, .ref (aM 0)), (1, .int x1), (2, .int x2), (3, .int x3)]) hx hb dX6_wordOf_77 hl (k := 5) rfl (by rfl) (by decide) rfl (fun ls hl => ?_)
  refine lv_goto (tgt := 18) hx hb dX6_wordOf_80 (by decide) ?_
  exact hrec18 _ _ _ _ _ _ _ h _ _ _ hP hD hS (lv_sub hl [2, 3, 4, 5, 1, 0] rfl)
set_option maxHeartbeats 4000000 in
set_option maxRecDepth 100000 in
theorem kX6_wordOf_73 {p : Program} {l : Launch} {e : Env} {s : State} {m : MethodId} {args : Array Value} {below : List Frame} {meth : Method} {c : Code} {D : va_G} {K : Nat → ClassId} {A : Nat → Prop} {aM : Nat → Nat} (C : xC p s m args meth c cX6_wordOf 7 (some .int) yX6_wordOf D K A []) (rec18 : S6 → Int32 → Int32 → Int32 → Int32 → Int32 → Option (Int32 × (S6))) (hrec18 : ∀ (M : S6) (x1 : Int32) (x2 : Int32) (x3 : Int32) (x4 : Int32) (x5 : Int32) (r : Int32 × (S6)), rec18 M x1 x2 x3 x4 x5 = some r → ∀ (H : Heap) (locs : List Loc) (ls : Array Slot), va_P D vwCl (w6 aM K M) H → va_D A (w6 aM K M) → va_S A s.heap H locs → lv_has ls 7 [(0, .ref (aM 0)), (1, .int x1), (2, .int x2), (3, .int x3), (4, .int x4), (5, .int x5)] → W p l e (xR 0 0 (oX6_wordOf aM K r)) s m args below meth c H locs 0 0 (xQ below args s D K A (oX6_wordOf aM K r)) (F0 m 18 ls [])) : ∀ (M : S6) (x1 : Int32) (x2 : Int32) (x3 : Int32) (x5 : Int32) (t0 : Int32) (r : Int32 × (S6)), fX6_wordOf_73  rec18 M x1 x2 x3 x5 t0 = some r → ∀ (H : Heap) (locs : List Loc) (ls : Array Slot), va_P D vwCl (w6 aM K M) H → va_D A (w6 aM K M) → va_S A s.heap H locs → lv_has ls 7 [(0, .ref (aM 0)), (1, .int x1), (2, .int x2), (3, .int x3), (5, .int x5)] → W p l e (xR 0 0 (oX6_wordOf aM K r)) s m args below meth c H locs 0 0 (xQ below args s D K A (oX6_wordOf aM K r)) (F0 m 73 ls [.int t0]) := by
  obtain ⟨hx, hb, hr, hml, hown, hK, hts, hA, hG, hlk, hte, hnm⟩ := id C
  intro M x1 x2 x3 x5 t0 r h H locs ls hP hD hS hl
  replace h : fX6_wordOf_74 rec18 M x1 x2 x3 x5 t0 (0 : Int32) = some r := h
  refine lv_iconst (v := (0 : Int32)) hx hb dX6_wordOf_73 (by decide) ?_
  exact kX6_wordOf_74 C _ hrec18 _ _ _ _ _ _ _ _ h _ _ _ hP hD hS (lv_sub hl [0, 1, 2, 3, 4] rfl)
set_option maxHeartbeats 4000000 in
set_option maxRecDepth 100000 in
theorem kX6_wordOf_64 {p : Program} {l : Launch} {e : Env} {s : State} {m : MethodId} {args : Array Value} {below : List Frame} {meth : Method} {c : Code} {D : va_G} {K : Nat → ClassId} {A : Nat → Prop} {aM : Nat → Nat} (C : xC p s m args meth c cX6_wordOf 7 (some .int) yX6_wordOf D K A []) (rec18 : S6 → Int32 → Int32 → Int32 → Int32 → Int32 → Option (Int32 × (S6))) (hrec18 : ∀ (M : S6) (x1 : Int32) (x2 : Int32) (x3 : Int32) (x4 : Int32) (x5 : Int32) (r : Int32 × (S6)), rec18 M x1 x2 x3 x4 x5 = some r → ∀ (H : Heap) (locs : List Loc) (ls : Array Slot), va_P D vwCl (w6 aM K M) H → va_D A (w6 aM K M) → va_S A s.heap H locs → lv_has ls 7 [(0, .ref (aM 0)), (1, .int x1), (2, .int x2), (3, .int x3), (4, .int x4), (5, .int x5)] → W p l e (xR 0 0 (oX6_wordOf aM K r)) s m args below meth c H locs 0 0 (xQ below args s D K A (oX6_wordOf aM K r)) (F0 m 18 ls [])) : ∀ (M : S6) (x1 : Int32) (x2 : Int32) (x3 : Int32) (x5 : Int32) (x6 : Int32) (t0 : Int32) (r : Int32 × (S6)), fX6_wordOf_64  rec18 M x1 x2 x3 x5 x6 t0 = some r → ∀ (H : Heap) (locs : List Loc) (ls : Array Slot), va_P D vwCl (w6 aM K M) H → va_D A (w6 aM K M) → va_S A s.heap H locs → lv_has ls 7 [(0, .ref (aM 0)), (1, .int x1), (2, .int x2), (3, .int x3), (5, .int x5), (6, .int x6)] → W p l e (xR 0 0 (oX6_wordOf aM K r)) s m args below meth c H locs 0 0 (xQ below args s D K A (oX6_wordOf aM K r)) (F0 m 64 ls [.int t0]) := by
  obtain ⟨hx, hb, hr, hml, hown, hK, hts, hA, hG, hlk, hte, hnm⟩ := id C
  intro M x1 x2 x3 x5 x6 t0 r h H locs ls hP hD hS hl
  replace h : fX6_wordOf_74 rec18 M x1 x2 x3 x5 t0 ((1 : Int32) <<< ((x3 - x6) &&& 31)) = some r := h
  refine lv_iconst (v := (1 : Int32)) hx hb dX6_wordOf_64 (by decide) ?_
  refine lv_iload_n hx hb dX6_wordOf_65 rfl (lv_at hl 3 rfl) ?_
  refine lv_iload hx hb dX6_wordOf_66 (lv_at hl 5 rfl) ?_
  refine lv_isub hx hb dX6_wordOf_68 ?_
  refine lv_ishl hx hb dX6_wordOf_69 ?_
  refine lv_goto (tgt := 74) hx hb dX6_wordOf_70 (by decide) ?_
  exact kX6_wordOf_74 C _ hrec18 _ _ _ _ _ _ _ _ h _ _ _ hP hD hS (lv_sub hl [0, 1, 2, 3, 4] rfl)
set_option maxHeartbeats 4000000 in
set_option maxRecDepth 100000 in
theorem kX6_wordOf_18 {p : Program} {l : Launch} {e : Env} {s : State} {m : MethodId} {args : Array Value} {below : List Frame} {meth : Method} {c : Code} {D : va_G} {K : Nat → ClassId} {A : Nat → Prop} {aM : Nat → Nat} (C : xC p s m args meth c cX6_wordOf 7 (some .int) yX6_wordOf D K A []) : ∀ fu : Nat, ∀ (M : S6) (x1 : Int32) (x2 : Int32) (x3 : Int32) (x4 : Int32) (x5 : Int32) (r : Int32 × (S6)), fX6_wordOf_18 fu M x1 x2 x3 x4 x5 = some r → ∀ (H : Heap) (locs : List Loc) (ls : Array Slot), va_P D vwCl (w6 aM K M) H → va_D A (w6 aM K M) → va_S A s.heap H locs → lv_has ls 7 [(0, .ref (aM 0)), (1, .int x1), (2, .int x2), (3, .int x3), (4, .int x4), (5, .int x5)] → W p l e (xR 0 0 (oX6_wordOf aM K r)) s m args below meth c H locs 0 0 (xQ below args s D K A (oX6_wordOf aM K r)) (F0 m 18 ls []) := by
  obtain ⟨hx, hb, hr, hml, hown, hK, hts, hA, hG, hlk, hte, hnm⟩ := id C
  intro fu
  induction fu with
  | zero =>
    intro M x1 x2 x3 x4 x5 r h
    exact nomatch (show (none : Option (Int32 × (S6))) = some r from h)
  | succ fu ih =>
    intro M x1 x2 x3 x4 x5 r h H locs ls hP hD hS hl
    replace h : (if (32 : Int32) ≤ x5 then some (x4, M) else (if (((32 : Int32) * x1) + x5) < 0 ∨ 224 ≤ ((((32 : Int32) * x1) + x5)).toNatClampNeg then none else (if (M.2.2.2.2.2.2.2.2.2.2.2.1 ((((32 : Int32) * x1) + x5)).toNatClampNeg) ≤ 0 then fX6_wordOf_73 (fX6_wordOf_18 fu) M x1 x2 x3 x5 x4 else (if (M.2.2.2.2.2.2.2.2.2.2.2.1 ((((32 : Int32) * x1) + x5)).toNatClampNeg) < x3 then fX6_wordOf_64 (fX6_wordOf_18 fu) M x1 x2 x3 x5 (M.2.2.2.2.2.2.2.2.2.2.2.1 ((((32 : Int32) * x1) + x5)).toNatClampNeg) x4 else (if (M.2.2.2.2.2.2.2.2.2.2.2.1 ((((32 : Int32) * x1) + x5)).toNatClampNeg) = x3 then (if x2 ≤ x5 then fX6_wordOf_73 (fX6_wordOf_18 fu) M x1 x2 x3 x5 x4 else fX6_wordOf_64 (fX6_wordOf_18 fu) M x1 x2 x3 x5 (M.2.2.2.2.2.2.2.2.2.2.2.1 ((((32 : Int32) * x1) + x5)).toNatClampNeg) x4) else fX6_wordOf_73 (fX6_wordOf_18 fu) M x1 x2 x3 x5 x4))))) = some r := h
    refine lv_iload hx hb dX6_wordOf_18 (lv_at hl 5 rfl) ?_
    refine lv_bipush (v := (32 : Int32)) hx hb dX6_wordOf_20 (by decide) ?_
    refine lv_icmp_ge (tgt := 83) hx hb dX6_wordOf_22 (by decide) (fun c9 => ?_) (fun c9 => ?_)
    · replace h := xi_t c9 h
      refine lv_iload hx hb dX6_wordOf_83 (lv_at hl 4 rfl) ?_
      obtain rfl := Option.some.inj h
      exact xe_i C hP hD hS dX6_wordOf_85
    · replace h := xi_f c9 h
      refine lv_aload_n hx hb dX6_wordOf_25 rfl (lv_at hl 0 rfl) ?_
      refine va_get (D := D) (ci := 6) (v := .ref (aM 6)) (C := RX6) (T := TX6) (N := 21) hx hb hts xu_X6 hown hK hP 0 rfl rfl 11 (by decide) (hts _ xw_518) (fun _ h9 => h9) rfl dX6_wordOf_26 ?_
      refine lv_bipush (v := (32 : Int32)) hx hb dX6_wordOf_29 (by decide) ?_
      refine lv_iload_n hx hb dX6_wordOf_31 rfl (lv_at hl 1 rfl) ?_
      refine lv_imul hx hb dX6_wordOf_32 ?_
      refine lv_iload hx hb dX6_wordOf_33 (lv_at hl 5 rfl) ?_
      refine lv_iadd hx hb dX6_wordOf_35 ?_
      obtain ⟨hi9, h⟩ := xi_g h
      refine va_iald hx hb hK hP 6 0 rfl rfl hi9 dX6_wordOf_36 ?_
      refine lv_istore (lv' := [(6, .int (M.2.2.2.2.2.2.2.2.2.2.2.1 ((((32 : Int32) * x1) + x5)).toNatClampNeg)), (0, .ref (aM 0)), (1, .int x1), (2, .int x2), (3, .int x3), (4, .int x4), (5, .int x5)]) hx hb dX6_wordOf_37 hl (by decide) rfl (fun ls hl => ?_)
      refine lv_iload hx hb dX6_wordOf_39 (lv_at hl 5 rfl) ?_
      refine lv_iload hx hb dX6_wordOf_41 (lv_at hl 0 rfl) ?_
      refine lv_if_le (tgt := 73) hx hb dX6_wordOf_43 (by decide) (fun c9 => ?_) (fun c9 => ?_)
      · replace h := xi_t c9 h
        exact kX6_wordOf_73 C _ ih _ _ _ _ _ _ _ h _ _ _ hP hD hS (lv_sub hl [1, 2, 3, 4, 6] rfl)
      · replace h := xi_f c9 h
        refine lv_iload hx hb dX6_wordOf_46 (lv_at hl 0 rfl) ?_
        refine lv_iload_n hx hb dX6_wordOf_48 rfl (lv_at hl 4 rfl) ?_
        refine lv_icmp_lt (tgt := 64) hx hb dX6_wordOf_49 (by decide) (fun c9 => ?_) (fun c9 => ?_)
        · replace h := xi_t c9 h
          exact kX6_wordOf_64 C _ ih _ _ _ _ _ _ _ _ h _ _ _ hP hD hS (lv_sub hl [1, 2, 3, 4, 6, 0] rfl)
        · replace h := xi_f c9 h
          refine lv_iload hx hb dX6_wordOf_52 (lv_at hl 0 rfl) ?_
          refine lv_iload_n hx hb dX6_wordOf_54 rfl (lv_at hl 4 rfl) ?_
          refine lv_icmp_ne (tgt := 73) hx hb dX6_wordOf_55 (by decide) (fun c9 => ?_) (fun c9 => ?_)
          · replace h := xi_f c9 h
            exact kX6_wordOf_73 C _ ih _ _ _ _ _ _ _ h _ _ _ hP hD hS (lv_sub hl [1, 2, 3, 4, 6] rfl)
          · replace h := xi_t c9 h
            refine lv_iload hx hb dX6_wordOf_58 (lv_at hl 6 rfl) ?_
            refine lv_iload_n hx hb dX6_wordOf_60 rfl (lv_at hl 3 rfl) ?_
            refine lv_icmp_ge (tgt := 73) hx hb dX6_wordOf_61 (by decide) (fun c9 => ?_) (fun c9 => ?_)
            · replace h := xi_t c9 h
              exact kX6_wordOf_73 C _ ih _ _ _ _ _ _ _ h _ _ _ hP hD hS (lv_sub hl [1, 2, 3, 4, 6] rfl)
            · replace h := xi_f c9 h
              exact kX6_wordOf_64 C _ ih _ _ _ _ _ _ _ _ h _ _ _ hP hD hS (lv_sub hl [1, 2, 3, 4, 6, 0] rfl)
set_option maxHeartbeats 4000000 in
set_option maxRecDepth 100000 in
theorem mX6_wordOf (l : Launch) (D : va_G) (K : Nat → ClassId) (aM : Nat → Nat) (sz : Nat) (M : S6) (p1 : Int32) (p2 : Int32) (r : Int32 × (S6)) (h : fX6_wordOf M p1 p2 = some r) : xMet l yX6_wordOf cX6_wordOf 7 (some .int) 0 0 D K [.ref (aM 0), .int p1, .int p2] sz (w6 aM K M) (oX6_wordOf aM K r) := by
  refine xm_of _ (by decide +kernel) (Nat.le_of_ble_eq_true rfl) (fun p e s m args below meth c A C hP hD ls hl => ?_)
  have hl : lv_has ls 7 [(0, .ref (aM 0)), (1, .int p1), (2, .int p2)] := hl
  have hS : va_S A s.heap s.heap [] := va_S.rf
  obtain ⟨hx, hb, hr, hml, hown, hK, hts, hA, hG, hlk, hte, hnm⟩ := id C
  replace h : (if (((32 : Int32) * p1) + p2) < 0 ∨ 224 ≤ ((((32 : Int32) * p1) + p2)).toNatClampNeg then none else fX6_wordOf_18 xF M p1 p2 (M.2.2.2.2.2.2.2.2.2.2.2.1 ((((32 : Int32) * p1) + p2)).toNatClampNeg) (0 : Int32) (0 : Int32)) = some r := h
  refine lv_aload_n hx hb dX6_wordOf_0 rfl (lv_at hl 0 rfl) ?_
  refine va_get (D := D) (ci := 6) (v := .ref (aM 6)) (C := RX6) (T := TX6) (N := 21) hx hb hts xu_X6 hown hK hP 0 rfl rfl 11 (by decide) (hts _ xw_518) (fun _ h9 => h9) rfl dX6_wordOf_1 ?_
  refine lv_bipush (v := (32 : Int32)) hx hb dX6_wordOf_4 (by decide) ?_
  refine lv_iload_n hx hb dX6_wordOf_6 rfl (lv_at hl 1 rfl) ?_
  refine lv_imul hx hb dX6_wordOf_7 ?_
  refine lv_iload_n hx hb dX6_wordOf_8 rfl (lv_at hl 2 rfl) ?_
  refine lv_iadd hx hb dX6_wordOf_9 ?_
  obtain ⟨hi9, h⟩ := xi_g h
  refine va_iald hx hb hK hP 6 0 rfl rfl hi9 dX6_wordOf_10 ?_
  refine lv_istore_n (lv' := [(3, .int (M.2.2.2.2.2.2.2.2.2.2.2.1 ((((32 : Int32) * p1) + p2)).toNatClampNeg)), (0, .ref (aM 0)), (1, .int p1), (2, .int p2)]) hx hb dX6_wordOf_11 rfl hl (by decide) rfl (fun ls hl => ?_)
  refine lv_iconst (v := (0 : Int32)) hx hb dX6_wordOf_12 (by decide) ?_
  refine lv_istore (lv' := [(4, .int (0 : Int32)), (3, .int (M.2.2.2.2.2.2.2.2.2.2.2.1 ((((32 : Int32) * p1) + p2)).toNatClampNeg)), (0, .ref (aM 0)), (1, .int p1), (2, .int p2)]) hx hb dX6_wordOf_13 hl (by decide) rfl (fun ls hl => ?_)
  refine lv_iconst (v := (0 : Int32)) hx hb dX6_wordOf_15 (by decide) ?_
  refine lv_istore (lv' := [(5, .int (0 : Int32)), (4, .int (0 : Int32)), (3, .int (M.2.2.2.2.2.2.2.2.2.2.2.1 ((((32 : Int32) * p1) + p2)).toNatClampNeg)), (0, .ref (aM 0)), (1, .int p1), (2, .int p2)]) hx hb dX6_wordOf_16 hl (by decide) rfl (fun ls hl => ?_)
  exact kX6_wordOf_18 C _ _ _ _ _ _ _ _ h _ _ _ hP hD hS (lv_sub hl [3, 4, 5, 2, 1, 0] rfl)
abbrev oX6_symbol (aM : Nat → Nat) (K : Nat → ClassId) (q : Int32 × (S6)) : xO := .inr ((some (.int q.1)), w6 aM K q.2)
def fX6_symbol_58 (rec39 : S6 → Int32 → Int32 → Int32 → Option (Int32 × (S6))) : Nat → S6 → Int32 → Int32 → Int32 → Int32 → Option (Int32 × (S6))
  | 0 => fun _ _ _ _ _ => none
  | fu + 1 => fun M x1 x2 x3 x4 => (if (32 : Int32) ≤ x4 then rec39 M x1 x2 (x3 + (1 : Int32)) else (if M.2.2.2.2.1 = 0 then (if (((32 : Int32) * x1) + x4) < 0 ∨ 224 ≤ ((((32 : Int32) * x1) + x4)).toNatClampNeg then none else (if (M.2.2.2.2.2.2.2.2.2.2.2.1 ((((32 : Int32) * x1) + x4)).toNatClampNeg) = x3 then xbnd0 (fX6_wordOf M x1 x4) (fun v_3 s_4 => (if v_3 = x2 then some (x4, s_4) else fX6_symbol_58 rec39 fu s_4 x1 x2 x3 (x4 + (1 : Int32)))) else fX6_symbol_58 rec39 fu M x1 x2 x3 (x4 + (1 : Int32)))) else rec39 M x1 x2 (x3 + (1 : Int32))))
def fX6_symbol_39 : Nat → S6 → Int32 → Int32 → Int32 → Option (Int32 × (S6))
  | 0 => fun _ _ _ _ => none
  | fu + 1 => fun M x1 x2 x3 => (if (8 : Int32) ≤ x3 then some ((0 : Int32), M) else xbnd0 (fX6_number M (1 : Int32)) (fun v_1 s_2 => fX6_symbol_58 (fX6_symbol_39 fu) xF s_2 x1 (((2 : Int32) * x2) + v_1) x3 (0 : Int32)))
def fX6_symbol_17 (M : S6) (x1 : Int32) : Option (Int32 × (S6)) := (if M.2.2.2.2.1 = 0 then (if x1 < 0 ∨ 7 ≤ (x1).toNatClampNeg then none else some ((M.2.2.2.2.2.2.2.2.2.2.2.2.1 (x1).toNatClampNeg), M)) else some ((0 : Int32), M))
def fX6_symbol (M : S6) (p1 : Int32) : Option (Int32 × (S6)) := (if p1 < 0 ∨ 7 ≤ (p1).toNatClampNeg then none else (if (M.2.2.2.2.2.2.2.2.2.2.2.2.1 (p1).toNatClampNeg) = (-1 : Int32) then (if M.2.2.2.2.1 = 0 then fX6_symbol_39 xF M p1 (0 : Int32) (1 : Int32) else fX6_symbol_17 M p1) else fX6_symbol_17 M p1))
set_option maxHeartbeats 4000000 in
set_option maxRecDepth 100000 in
theorem kX6_symbol_58 {p : Program} {l : Launch} {e : Env} {s : State} {m : MethodId} {args : Array Value} {below : List Frame} {meth : Method} {c : Code} {D : va_G} {K : Nat → ClassId} {A : Nat → Prop} {aM : Nat → Nat} (C : xC p s m args meth c cX6_symbol 5 (some .int) yX6_symbol D K A []) (rec39 : S6 → Int32 → Int32 → Int32 → Option (Int32 × (S6))) (hrec39 : ∀ (M : S6) (x1 : Int32) (x2 : Int32) (x3 : Int32) (r : Int32 × (S6)), rec39 M x1 x2 x3 = some r → ∀ (H : Heap) (locs : List Loc) (ls : Array Slot), va_P D vwCl (w6 aM K M) H → va_D A (w6 aM K M) → va_S A s.heap H locs → lv_has ls 5 [(0, .ref (aM 0)), (1, .int x1), (2, .int x2), (3, .int x3)] → W p l e (xR 1 26 (oX6_symbol aM K r)) s m args below meth c H locs 0 0 (xQ below args s D K A (oX6_symbol aM K r)) (F0 m 39 ls [])) : ∀ fu : Nat, ∀ (M : S6) (x1 : Int32) (x2 : Int32) (x3 : Int32) (x4 : Int32) (r : Int32 × (S6)), fX6_symbol_58  rec39 fu M x1 x2 x3 x4 = some r → ∀ (H : Heap) (locs : List Loc) (ls : Array Slot), va_P D vwCl (w6 aM K M) H → va_D A (w6 aM K M) → va_S A s.heap H locs → lv_has ls 5 [(0, .ref (aM 0)), (1, .int x1), (2, .int x2), (3, .int x3), (4, .int x4)] → W p l e (xR 1 26 (oX6_symbol aM K r)) s m args below meth c H locs 0 0 (xQ below args s D K A (oX6_symbol aM K r)) (F0 m 58 ls []) := by
  obtain ⟨hx, hb, hr, hml, hown, hK, hts, hA, hG, hlk, hte, hnm⟩ := id C
  intro fu
  induction fu with
  | zero =>
    intro M x1 x2 x3 x4 r h
    exact nomatch (show (none : Option (Int32 × (S6))) = some r from h)
  | succ fu ih =>
    intro M x1 x2 x3 x4 r h H locs ls hP hD hS hl
    replace h : (if (32 : Int32) ≤ x4 then rec39 M x1 x2 (x3 + (1 : Int32)) else (if M.2.2.2.2.1 = 0 then (if (((32 : Int32) * x1) + x4) < 0 ∨ 224 ≤ ((((32 : Int32) * x1) + x4)).toNatClampNeg then none else (if (M.2.2.2.2.2.2.2.2.2.2.2.1 ((((32 : Int32) * x1) + x4)).toNatClampNeg) = x3 then xbnd0 (fX6_wordOf M x1 x4) (fun v_3 s_4 => (if v_3 = x2 then some (x4, s_4) else fX6_symbol_58 rec39 fu s_4 x1 x2 x3 (x4 + (1 : Int32)))) else fX6_symbol_58 rec39 fu M x1 x2 x3 (x4 + (1 : Int32)))) else rec39 M x1 x2 (x3 + (1 : Int32)))) = some r := h
    refine lv_iload hx hb dX6_symbol_58 (lv_at hl 4 rfl) ?_
    refine lv_bipush (v := (32 : Int32)) hx hb dX6_symbol_60 (by decide) ?_
    refine lv_icmp_ge (tgt := 108) hx hb dX6_symbol_62 (by decide) (fun c9 => ?_) (fun c9 => ?_)
    · replace h := xi_t c9 h
      refine lv_iinc (v := (x3 + (1 : Int32))) (lv' := [(3, .int (x3 + (1 : Int32))), (0, .ref (aM 0)), (1, .int x1), (2, .int x2), (4, .int x4)]) hx hb dX6_symbol_108 hl (k := 3) rfl (by rfl) (by decide) rfl (fun ls hl => ?_)
      refine lv_goto (tgt := 39) hx hb dX6_symbol_111 (by decide) ?_
      exact hrec39 _ _ _ _ _ h _ _ _ hP hD hS (lv_sub hl [1, 2, 3, 0] rfl)
    · replace h := xi_f c9 h
      refine lv_aload_n hx hb dX6_symbol_65 rfl (lv_at hl 0 rfl) ?_
      refine va_get (D := D) (ci := 6) (v := .int M.2.2.2.2.1) (C := RX6) (T := TX6) (N := 21) hx hb hts xu_X6 hown hK hP 0 rfl rfl 4 (by decide) (hts _ xw_511) (fun _ h9 => h9) rfl dX6_symbol_66 ?_
      refine lv_if_ne (tgt := 108) hx hb dX6_symbol_69 (by decide) (fun c9 => ?_) (fun c9 => ?_)
      · replace h := xi_f c9 h
        refine lv_iinc (v := (x3 + (1 : Int32))) (lv' := [(3, .int (x3 + (1 : Int32))), (0, .ref (aM 0)), (1, .int x1), (2, .int x2), (4, .int x4)]) hx hb dX6_symbol_108 hl (k := 3) rfl (by rfl) (by decide) rfl (fun ls hl => ?_)
        refine lv_goto (tgt := 39) hx hb dX6_symbol_111 (by decide) ?_
        exact hrec39 _ _ _ _ _ h _ _ _ hP hD hS (lv_sub hl [1, 2, 3, 0] rfl)
      · replace h := xi_t c9 h
        refine lv_aload_n hx hb dX6_symbol_72 rfl (lv_at hl 0 rfl) ?_
        refine va_get (D := D) (ci := 6) (v := .ref (aM 6)) (C := RX6) (T := TX6) (N := 21) hx hb hts xu_X6 hown hK hP 0 rfl rfl 11 (by decide) (hts _ xw_518) (fun _ h9 => h9) rfl dX6_symbol_73 ?_
        refine lv_bipush (v := (32 : Int32)) hx hb dX6_symbol_76 (by decide) ?_
        refine lv_iload_n hx hb dX6_symbol_78 rfl (lv_at hl 1 rfl) ?_
        refine lv_imul hx hb dX6_symbol_79 ?_
        refine lv_iload hx hb dX6_symbol_80 (lv_at hl 4 rfl) ?_
        refine lv_iadd hx hb dX6_symbol_82 ?_
        obtain ⟨hi9, h⟩ := xi_g h
        refine va_iald hx hb hK hP 6 0 rfl rfl hi9 dX6_symbol_83 ?_
        refine lv_iload_n hx hb dX6_symbol_84 rfl (lv_at hl 3 rfl) ?_
        refine lv_icmp_ne (tgt := 102) hx hb dX6_symbol_85 (by decide) (fun c9 => ?_) (fun c9 => ?_)
        · replace h := xi_f c9 h
          refine lv_iinc (v := (x4 + (1 : Int32))) (lv' := [(4, .int (x4 + (1 : Int32))), (0, .ref (aM 0)), (1, .int x1), (2, .int x2), (3, .int x3)]) hx hb dX6_symbol_102 hl (k := 4) rfl (by rfl) (by decide) rfl (fun ls hl => ?_)
          refine lv_goto (tgt := 58) hx hb dX6_symbol_105 (by decide) ?_
          exact ih _ _ _ _ _ _ h _ _ _ hP hD hS (lv_sub hl [1, 2, 3, 4, 0] rfl)
        · replace h := xi_t c9 h
          refine lv_aload_n hx hb dX6_symbol_88 rfl (lv_at hl 0 rfl) ?_
          refine lv_iload_n hx hb dX6_symbol_89 rfl (lv_at hl 1 rfl) ?_
          refine lv_iload hx hb dX6_symbol_90 (lv_at hl 4 rfl) ?_
          obtain ⟨v_3, s_4, hc9, h⟩ := xi_d h
          refine xc_V (As := [.int x1, .int x4]) (ws' := w6 aM K s_4) C (mX6_wordOf l D K aM _ _ _ _ _ hc9) xgi_X6_77 xd_X6_wordOf ⟨Nat.le_of_ble_eq_true rfl, Nat.le_of_ble_eq_true rfl⟩ ⟨Nat.zero_le _, Nat.zero_le _⟩ hl rfl (Nat.le_of_ble_eq_true rfl) dX6_symbol_92 hP hD hS 0 6 rfl rfl rfl [0, 1, 2, 3, 4, 5, 6, 7, 8, 9, 10, 11] rfl rfl [(0, w6 aM K s_4)] rfl rfl rfl (List.forall_mem_cons.mpr ⟨Nat.le_of_ble_eq_true rfl, (fun _ h => absurd h List.not_mem_nil)⟩) (fun H locs hP hD hS => ?_)
          refine W.eq (g2 := F0 m 95 ls [.int v_3]) rfl ?_
          refine lv_iload_n hx hb dX6_symbol_95 rfl (lv_at hl 2 rfl) ?_
          refine lv_icmp_ne (tgt := 102) hx hb dX6_symbol_96 (by decide) (fun c9 => ?_) (fun c9 => ?_)
          · replace h := xi_f c9 h
            refine lv_iinc (v := (x4 + (1 : Int32))) (lv' := [(4, .int (x4 + (1 : Int32))), (0, .ref (aM 0)), (1, .int x1), (2, .int x2), (3, .int x3)]) hx hb dX6_symbol_102 hl (k := 4) rfl (by rfl) (by decide) rfl (fun ls hl => ?_)
            refine lv_goto (tgt := 58) hx hb dX6_symbol_105 (by decide) ?_
            exact ih _ _ _ _ _ _ h _ _ _ hP hD hS (lv_sub hl [1, 2, 3, 4, 0] rfl)
          · replace h := xi_t c9 h
            refine lv_iload hx hb dX6_symbol_99 (lv_at hl 4 rfl) ?_
            obtain rfl := Option.some.inj h
            exact xe_i C hP hD hS dX6_symbol_101
set_option maxHeartbeats 4000000 in
set_option maxRecDepth 100000 in
theorem kX6_symbol_39 {p : Program} {l : Launch} {e : Env} {s : State} {m : MethodId} {args : Array Value} {below : List Frame} {meth : Method} {c : Code} {D : va_G} {K : Nat → ClassId} {A : Nat → Prop} {aM : Nat → Nat} (C : xC p s m args meth c cX6_symbol 5 (some .int) yX6_symbol D K A []) : ∀ fu : Nat, ∀ (M : S6) (x1 : Int32) (x2 : Int32) (x3 : Int32) (r : Int32 × (S6)), fX6_symbol_39 fu M x1 x2 x3 = some r → ∀ (H : Heap) (locs : List Loc) (ls : Array Slot), va_P D vwCl (w6 aM K M) H → va_D A (w6 aM K M) → va_S A s.heap H locs → lv_has ls 5 [(0, .ref (aM 0)), (1, .int x1), (2, .int x2), (3, .int x3)] → W p l e (xR 1 26 (oX6_symbol aM K r)) s m args below meth c H locs 0 0 (xQ below args s D K A (oX6_symbol aM K r)) (F0 m 39 ls []) := by
  obtain ⟨hx, hb, hr, hml, hown, hK, hts, hA, hG, hlk, hte, hnm⟩ := id C
  intro fu
  induction fu with
  | zero =>
    intro M x1 x2 x3 r h
    exact nomatch (show (none : Option (Int32 × (S6))) = some r from h)
  | succ fu ih =>
    intro M x1 x2 x3 r h H locs ls hP hD hS hl
    replace h : (if (8 : Int32) ≤ x3 then some ((0 : Int32), M) else xbnd0 (fX6_number M (1 : Int32)) (fun v_1 s_2 => fX6_symbol_58 (fX6_symbol_39 fu) xF s_2 x1 (((2 : Int32) * x2) + v_1) x3 (0 : Int32))) = some r := h
    refine lv_iload_n hx hb dX6_symbol_39 rfl (lv_at hl 3 rfl) ?_
    refine lv_bipush (v := (8 : Int32)) hx hb dX6_symbol_40 (by decide) ?_
    refine lv_icmp_ge (tgt := 114) hx hb dX6_symbol_42 (by decide) (fun c9 => ?_) (fun c9 => ?_)
    · replace h := xi_t c9 h
      refine lv_iconst (v := (0 : Int32)) hx hb dX6_symbol_114 (by decide) ?_
      obtain rfl := Option.some.inj h
      exact xe_i C hP hD hS dX6_symbol_115
    · replace h := xi_f c9 h
      refine lv_iconst (v := (2 : Int32)) hx hb dX6_symbol_45 (by decide) ?_
      refine lv_iload_n hx hb dX6_symbol_46 rfl (lv_at hl 2 rfl) ?_
      refine lv_imul hx hb dX6_symbol_47 ?_
      refine lv_aload_n hx hb dX6_symbol_48 rfl (lv_at hl 0 rfl) ?_
      refine lv_iconst (v := (1 : Int32)) hx hb dX6_symbol_49 (by decide) ?_
      obtain ⟨v_1, s_2, hc9, h⟩ := xi_d h
      refine xc_V (As := [.int (1 : Int32)]) (ws' := w6 aM K s_2) C (mX6_number l D K aM _ _ _ _ hc9) xgi_X6_66 xd_X6_number ⟨Nat.le_of_ble_eq_true rfl, Nat.le_of_ble_eq_true rfl⟩ ⟨Nat.zero_le _, Nat.zero_le _⟩ hl rfl (Nat.le_of_ble_eq_true rfl) dX6_symbol_50 hP hD hS 0 6 rfl rfl rfl [0, 1, 2, 3, 4, 5, 6, 7, 8, 9, 10, 11] rfl rfl [(0, w6 aM K s_2)] rfl rfl rfl (List.forall_mem_cons.mpr ⟨Nat.le_of_ble_eq_true rfl, (fun _ h => absurd h List.not_mem_nil)⟩) (fun H locs hP hD hS => ?_)
      refine W.eq (g2 := F0 m 53 ls [.int v_1, .int ((2 : Int32) * x2)]) rfl ?_
      refine lv_iadd hx hb dX6_symbol_53 ?_
      refine lv_istore_n (lv' := [(2, .int (((2 : Int32) * x2) + v_1)), (0, .ref (aM 0)), (1, .int x1), (3, .int x3)]) hx hb dX6_symbol_54 rfl hl (by decide) rfl (fun ls hl => ?_)
      refine lv_iconst (v := (0 : Int32)) hx hb dX6_symbol_55 (by decide) ?_
      refine lv_istore (lv' := [(4, .int (0 : Int32)), (2, .int (((2 : Int32) * x2) + v_1)), (0, .ref (aM 0)), (1, .int x1), (3, .int x3)]) hx hb dX6_symbol_56 hl (by decide) rfl (fun ls hl => ?_)
      exact kX6_symbol_58 C _ ih _ _ _ _ _ _ _ h _ _ _ hP hD hS (lv_sub hl [2, 3, 1, 4, 0] rfl)
set_option maxHeartbeats 4000000 in
set_option maxRecDepth 100000 in
theorem kX6_symbol_17 {p : Program} {l : Launch} {e : Env} {s : State} {m : MethodId} {args : Array Value} {below : List Frame} {meth : Method} {c : Code} {D : va_G} {K : Nat → ClassId} {A : Nat → Prop} {aM : Nat → Nat} (C : xC p s m args meth c cX6_symbol 5 (some .int) yX6_symbol D K A []) : ∀ (M : S6) (x1 : Int32) (r : Int32 × (S6)), fX6_symbol_17  M x1 = some r → ∀ (H : Heap) (locs : List Loc) (ls : Array Slot), va_P D vwCl (w6 aM K M) H → va_D A (w6 aM K M) → va_S A s.heap H locs → lv_has ls 5 [(0, .ref (aM 0)), (1, .int x1)] → W p l e (xR 1 26 (oX6_symbol aM K r)) s m args below meth c H locs 0 0 (xQ below args s D K A (oX6_symbol aM K r)) (F0 m 17 ls []) := by
  obtain ⟨hx, hb, hr, hml, hown, hK, hts, hA, hG, hlk, hte, hnm⟩ := id C
  intro M x1 r h H locs ls hP hD hS hl
  replace h : (if M.2.2.2.2.1 = 0 then (if x1 < 0 ∨ 7 ≤ (x1).toNatClampNeg then none else some ((M.2.2.2.2.2.2.2.2.2.2.2.2.1 (x1).toNatClampNeg), M)) else some ((0 : Int32), M)) = some r := h
  refine lv_aload_n hx hb dX6_symbol_17 rfl (lv_at hl 0 rfl) ?_
  refine va_get (D := D) (ci := 6) (v := .int M.2.2.2.2.1) (C := RX6) (T := TX6) (N := 21) hx hb hts xu_X6 hown hK hP 0 rfl rfl 4 (by decide) (hts _ xw_511) (fun _ h9 => h9) rfl dX6_symbol_18 ?_
  refine lv_if_eq (tgt := 28) hx hb dX6_symbol_21 (by decide) (fun c9 => ?_) (fun c9 => ?_)
  · replace h := xi_t c9 h
    refine lv_aload_n hx hb dX6_symbol_28 rfl (lv_at hl 0 rfl) ?_
    refine va_get (D := D) (ci := 6) (v := .ref (aM 7)) (C := RX6) (T := TX6) (N := 21) hx hb hts xu_X6 hown hK hP 0 rfl rfl 12 (by decide) (hts _ xw_519) (fun _ h9 => h9) rfl dX6_symbol_29 ?_
    refine lv_iload_n hx hb dX6_symbol_32 rfl (lv_at hl 1 rfl) ?_
    obtain ⟨hi9, h⟩ := xi_g h
    refine va_iald hx hb hK hP 7 0 rfl rfl hi9 dX6_symbol_33 ?_
    obtain rfl := Option.some.inj h
    exact xe_i C hP hD hS dX6_symbol_34
  · replace h := xi_f c9 h
    refine lv_iconst (v := (0 : Int32)) hx hb dX6_symbol_24 (by decide) ?_
    refine lv_goto (tgt := 34) hx hb dX6_symbol_25 (by decide) ?_
    obtain rfl := Option.some.inj h
    exact xe_i C hP hD hS dX6_symbol_34
set_option maxHeartbeats 4000000 in
set_option maxRecDepth 100000 in
theorem mX6_symbol (l : Launch) (D : va_G) (K : Nat → ClassId) (aM : Nat → Nat) (sz : Nat) (M : S6) (p1 : Int32) (r : Int32 × (S6)) (h : fX6_symbol M p1 = some r) : xMet l yX6_symbol cX6_symbol 5 (some .int) 1 26 D K [.ref (aM 0), .int p1] sz (w6 aM K M) (oX6_symbol aM K r) := by
  refine xm_of _ (by decide +kernel) (Nat.le_of_ble_eq_true rfl) (fun p e s m args below meth c A C hP hD ls hl => ?_)
  have hl : lv_has ls 5 [(0, .ref (aM 0)), (1, .int p1)] := hl
  have hS : va_S A s.heap s.heap [] := va_S.rf
  obtain ⟨hx, hb, hr, hml, hown, hK, hts, hA, hG, hlk, hte, hnm⟩ := id C
  replace h : (if p1 < 0 ∨ 7 ≤ (p1).toNatClampNeg then none else (if (M.2.2.2.2.2.2.2.2.2.2.2.2.1 (p1).toNatClampNeg) = (-1 : Int32) then (if M.2.2.2.2.1 = 0 then fX6_symbol_39 xF M p1 (0 : Int32) (1 : Int32) else fX6_symbol_17 M p1) else fX6_symbol_17 M p1)) = some r := h
  refine lv_aload_n hx hb dX6_symbol_0 rfl (lv_at hl 0 rfl) ?_
  refine va_get (D := D) (ci := 6) (v := .ref (aM 7)) (C := RX6) (T := TX6) (N := 21) hx hb hts xu_X6 hown hK hP 0 rfl rfl 12 (by decide) (hts _ xw_519) (fun _ h9 => h9) rfl dX6_symbol_1 ?_
  refine lv_iload_n hx hb dX6_symbol_4 rfl (lv_at hl 1 rfl) ?_
  obtain ⟨hi9, h⟩ := xi_g h
  refine va_iald hx hb hK hP 7 0 rfl rfl hi9 dX6_symbol_5 ?_
  refine lv_iconst (v := (-1 : Int32)) hx hb dX6_symbol_6 (by decide) ?_
  refine lv_icmp_ne (tgt := 17) hx hb dX6_symbol_7 (by decide) (fun c9 => ?_) (fun c9 => ?_)
  · replace h := xi_f c9 h
    exact kX6_symbol_17 C _ _ _ h _ _ _ hP hD hS (lv_sub hl [0, 1] rfl)
  · replace h := xi_t c9 h
    refine lv_aload_n hx hb dX6_symbol_10 rfl (lv_at hl 0 rfl) ?_
    refine va_get (D := D) (ci := 6) (v := .int M.2.2.2.2.1) (C := RX6) (T := TX6) (N := 21) hx hb hts xu_X6 hown hK hP 0 rfl rfl 4 (by decide) (hts _ xw_511) (fun _ h9 => h9) rfl dX6_symbol_11 ?_
    refine lv_if_eq (tgt := 35) hx hb dX6_symbol_14 (by decide) (fun c9 => ?_) (fun c9 => ?_)
    · replace h := xi_t c9 h
      refine lv_iconst (v := (0 : Int32)) hx hb dX6_symbol_35 (by decide) ?_
      refine lv_istore_n (lv' := [(2, .int (0 : Int32)), (0, .ref (aM 0)), (1, .int p1)]) hx hb dX6_symbol_36 rfl hl (by decide) rfl (fun ls hl => ?_)
      refine lv_iconst (v := (1 : Int32)) hx hb dX6_symbol_37 (by decide) ?_
      refine lv_istore_n (lv' := [(3, .int (1 : Int32)), (2, .int (0 : Int32)), (0, .ref (aM 0)), (1, .int p1)]) hx hb dX6_symbol_38 rfl hl (by decide) rfl (fun ls hl => ?_)
      exact kX6_symbol_39 C _ _ _ _ _ _ h _ _ _ hP hD hS (lv_sub hl [2, 3, 1, 0] rfl)
    · replace h := xi_f c9 h
      exact kX6_symbol_17 C _ _ _ h _ _ _ hP hD hS (lv_sub hl [0, 1] rfl)
