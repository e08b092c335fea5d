abbrev oX6_add (aM : Nat → Nat) (K : Nat → ClassId) (q : Unit × (S6)) : xO := .inr (none, w6 aM K q.2)
def fX6_add (M : S6) (p1 : Int32) : Option (Unit × (S6)) := (if M.2.2.2.2.1 = 0 then (if M.2.2.2.2.2.2.2.1 < 0 ∨ 400 ≤ (M.2.2.2.2.2.2.2.1).toNatClampNeg then none else some ((), (M.1, M.2.1, M.2.2.1, M.2.2.2.1, M.2.2.2.2.1, M.2.2.2.2.2.1, M.2.2.2.2.2.2.1, (M.2.2.2.2.2.2.2.1 + (1 : Int32)), (upd M.2.2.2.2.2.2.2.2.1 (M.2.2.2.2.2.2.2.1).toNatClampNeg p1), M.2.2.2.2.2.2.2.2.2.1, M.2.2.2.2.2.2.2.2.2.2.1, M.2.2.2.2.2.2.2.2.2.2.2.1, M.2.2.2.2.2.2.2.2.2.2.2.2.1, M.2.2.2.2.2.2.2.2.2.2.2.2.2.1, M.2.2.2.2.2.2.2.2.2.2.2.2.2.2.1, M.2.2.2.2.2.2.2.2.2.2.2.2.2.2.2.1, M.2.2.2.2.2.2.2.2.2.2.2.2.2.2.2.2.1, M.2.2.2.2.2.2.2.2.2.2.2.2.2.2.2.2.2.1, M.2.2.2.2.2.2.2.2.2.2.2.2.2.2.2.2.2.2.1, M.2.2.2.2.2.2.2.2.2.2.2.2.2.2.2.2.2.2.2.1, M.2.2.2.2.2.2.2.2.2.2.2.2.2.2.2.2.2.2.2.2))) else some ((), M))
set_option maxHeartbeats 4000000 in
set_option maxRecDepth 100000 in
theorem mX6_add (l : Launch) (D : va_G) (K : Nat → ClassId) (aM : Nat → Nat) (sz : Nat) (M : S6) (p1 : Int32) (r : Unit × (S6)) (h : fX6_add M p1 = some r) : xMet l yX6_add cX6_add 2 none 0 0 D K [.ref (aM 0), .int p1] sz (w6 aM K M) (oX6_add aM K r) := by
  refine xm_of _ (by decide +kernel) (Nat.le_of_ble_eq_true rfl) (fun p e s m args below meth c A C hP hD ls hl => ?_)
  have hl : lv_has ls 2 [(0, .ref (aM 0)), (1, .int p1)] := hl
  have hS : va_S A s.heap s.heap [] := va_S.rf
  obtain ⟨hx, hb, hr, hml, hown, hK, hts, hA, hG, hlk, hte, hnm⟩ := id C
  replace h : (if M.2.2.2.2.1 = 0 then (if M.2.2.2.2.2.2.2.1 < 0 ∨ 400 ≤ (M.2.2.2.2.2.2.2.1).toNatClampNeg then none else some ((), (M.1, M.2.1, M.2.2.1, M.2.2.2.1, M.2.2.2.2.1, M.2.2.2.2.2.1, M.2.2.2.2.2.2.1, (M.2.2.2.2.2.2.2.1 + (1 : Int32)), (upd M.2.2.2.2.2.2.2.2.1 (M.2.2.2.2.2.2.2.1).toNatClampNeg p1), M.2.2.2.2.2.2.2.2.2.1, M.2.2.2.2.2.2.2.2.2.2.1, M.2.2.2.2.2.2.2.2.2.2.2.1, M.2.2.2.2.2.2.2.2.2.2.2.2.1, M.2.2.2.2.2.2.2.2.2.2.2.2.2.1, M.2.2.2.2.2.2.2.2.2.2.2.2.2.2.1, M.2.2.2.2.2.2.2.2.2.2.2.2.2.2.2.1, M.2.2.2.2.2.2.2.2.2.2.2.2.2.2.2.2.1, M.2.2.2.2.2.2.2.2.2.2.2.2.2.2.2.2.2.1, M.2.2.2.2.2.2.2.2.2.2.2.2.2.2.2.2.2.2.1, M.2.2.2.2.2.2.2.2.2.2.2.2.2.2.2.2.2.2.2.1, M.2.2.2.2.2.2.2.2.2.2.2.2.2.2.2.2.2.2.2.2))) else some ((), M)) = some r := h
  refine lv_aload_n hx hb dX6_add_0 rfl (lv_at hl 0 rfl) ?_
  refine va_get (D := D) (ci := 6) (v := .int M.2.2.2.2.1) (C := RX6) (T := TX6) (N := 21) hx hb hts xu_X6 hown hK hP 0 rfl rfl 4 (by decide) (hts _ xw_511) (fun _ h9 => h9) rfl dX6_add_1 ?_
  refine lv_if_ne (tgt := 27) hx hb dX6_add_4 (by decide) (fun c9 => ?_) (fun c9 => ?_)
  · replace h := xi_f c9 h
    obtain rfl := Option.some.inj h
    exact xe_v C hP hD hS dX6_add_27
  · replace h := xi_t c9 h
    refine lv_aload_n hx hb dX6_add_7 rfl (lv_at hl 0 rfl) ?_
    refine va_get (D := D) (ci := 6) (v := .ref (aM 3)) (C := RX6) (T := TX6) (N := 21) hx hb hts xu_X6 hown hK hP 0 rfl rfl 8 (by decide) (hts _ xw_515) (fun _ h9 => h9) rfl dX6_add_8 ?_
    refine lv_aload_n hx hb dX6_add_11 rfl (lv_at hl 0 rfl) ?_
    refine va_get (D := D) (ci := 6) (v := .int M.2.2.2.2.2.2.2.1) (C := RX6) (T := TX6) (N := 21) hx hb hts xu_X6 hown hK hP 0 rfl rfl 7 (by decide) (hts _ xw_514) (fun _ h9 => h9) rfl dX6_add_12 ?_
    refine lv_iload_n hx hb dX6_add_15 rfl (lv_at hl 1 rfl) ?_
    obtain ⟨hi9, h⟩ := xi_g h
    refine va_iast hx hb hK hP hD hS 3 0 rfl rfl hi9 dX6_add_16 (fun H locs hP hD hS => ?_)
    have hP : va_P D vwCl (w6 aM K (M.1, M.2.1, M.2.2.1, M.2.2.2.1, M.2.2.2.2.1, M.2.2.2.2.2.1, M.2.2.2.2.2.2.1, M.2.2.2.2.2.2.2.1, (upd M.2.2.2.2.2.2.2.2.1 (M.2.2.2.2.2.2.2.1).toNatClampNeg p1), M.2.2.2.2.2.2.2.2.2.1, M.2.2.2.2.2.2.2.2.2.2.1, M.2.2.2.2.2.2.2.2.2.2.2.1, M.2.2.2.2.2.2.2.2.2.2.2.2.1, M.2.2.2.2.2.2.2.2.2.2.2.2.2.1, M.2.2.2.2.2.2.2.2.2.2.2.2.2.2.1, M.2.2.2.2.2.2.2.2.2.2.2.2.2.2.2.1, M.2.2.2.2.2.2.2.2.2.2.2.2.2.2.2.2.1, M.2.2.2.2.2.2.2.2.2.2.2.2.2.2.2.2.2.1, M.2.2.2.2.2.2.2.2.2.2.2.2.2.2.2.2.2.2.1, M.2.2.2.2.2.2.2.2.2.2.2.2.2.2.2.2.2.2.2.1, M.2.2.2.2.2.2.2.2.2.2.2.2.2.2.2.2.2.2.2.2)) H := hP
    have hD : va_D A (w6 aM K (M.1, M.2.1, M.2.2.1, M.2.2.2.1, M.2.2.2.2.1, M.2.2.2.2.2.1, M.2.2.2.2.2.2.1, M.2.2.2.2.2.2.2.1, (upd M.2.2.2.2.2.2.2.2.1 (M.2.2.2.2.2.2.2.1).toNatClampNeg p1), M.2.2.2.2.2.2.2.2.2.1, M.2.2.2.2.2.2.2.2.2.2.1, M.2.2.2.2.2.2.2.2.2.2.2.1, M.2.2.2.2.2.2.2.2.2.2.2.2.1, M.2.2.2.2.2.2.2.2.2.2.2.2.2.1, M.2.2.2.2.2.2.2.2.2.2.2.2.2.2.1, M.2.2.2.2.2.2.2.2.2.2.2.2.2.2.2.1, M.2.2.2.2.2.2.2.2.2.2.2.2.2.2.2.2.1, M.2.2.2.2.2.2.2.2.2.2.2.2.2.2.2.2.2.1, M.2.2.2.2.2.2.2.2.2.2.2.2.2.2.2.2.2.2.1, M.2.2.2.2.2.2.2.2.2.2.2.2.2.2.2.2.2.2.2.1, M.2.2.2.2.2.2.2.2.2.2.2.2.2.2.2.2.2.2.2.2)) := hD
    refine lv_aload_n hx hb dX6_add_17 rfl (lv_at hl 0 rfl) ?_
    refine lv_dup hx hb dX6_add_18 rfl ?_
    refine va_get (D := D) (ci := 6) (v := .int M.2.2.2.2.2.2.2.1) (C := RX6) (T := TX6) (N := 21) hx hb hts xu_X6 hown hK hP 0 rfl rfl 7 (by decide) (hts _ xw_514) (fun _ h9 => h9) rfl dX6_add_19 ?_
    refine lv_iconst (v := (1 : Int32)) hx hb dX6_add_22 (by decide) ?_
    refine lv_iadd hx hb dX6_add_23 ?_
    refine va_put (D := D) (ci := 6) (v := .int (M.2.2.2.2.2.2.2.1 + (1 : Int32))) (ty := .int) (C := RX6) (T := TX6) (N := 21) hx hb hts xu_X6 tyX6 tyX6_ok nmX6 hown hK hP hD hS 0 rfl rfl 7 (by decide) (hts _ xw_514) (fun _ h9 => h9) rfl (by decide +kernel) rfl rfl (Nat.le_of_ble_eq_true rfl) dX6_add_24 (fun H locs hP hD hS => ?_)
    have hP : va_P D vwCl (w6 aM K (M.1, M.2.1, M.2.2.1, M.2.2.2.1, M.2.2.2.2.1, M.2.2.2.2.2.1, M.2.2.2.2.2.2.1, (M.2.2.2.2.2.2.2.1 + (1 : Int32)), (upd M.2.2.2.2.2.2.2.2.1 (M.2.2.2.2.2.2.2.1).toNatClampNeg p1), M.2.2.2.2.2.2.2.2.2.1, M.2.2.2.2.2.2.2.2.2.2.1, M.2.2.2.2.2.2.2.2.2.2.2.1, M.2.2.2.2.2.2.2.2.2.2.2.2.1, M.2.2.2.2.2.2.2.2.2.2.2.2.2.1, M.2.2.2.2.2.2.2.2.2.2.2.2.2.2.1, M.2.2.2.2.2.2.2.2.2.2.2.2.2.2.2.1, M.2.2.2.2.2.2.2.2.2.2.2.2.2.2.2.2.1, M.2.2.2.2.2.2.2.2.2.2.2.2.2.2.2.2.2.1, M.2.2.2.2.2.2.2.2.2.2.2.2.2.2.2.2.2.2.1, M.2.2.2.2.2.2.2.2.2.2.2.2.2.2.2.2.2.2.2.1, M.2.2.2.2.2.2.2.2.2.2.2.2.2.2.2.2.2.2.2.2)) H := hP
    have hD : va_D A (w6 aM K (M.1, M.2.1, M.2.2.1, M.2.2.2.1, M.2.2.2.2.1, M.2.2.2.2.2.1, M.2.2.2.2.2.2.1, (M.2.2.2.2.2.2.2.1 + (1 : Int32)), (upd M.2.2.2.2.2.2.2.2.1 (M.2.2.2.2.2.2.2.1).toNatClampNeg p1), M.2.2.2.2.2.2.2.2.2.1, M.2.2.2.2.2.2.2.2.2.2.1, M.2.2.2.2.2.2.2.2.2.2.2.1, M.2.2.2.2.2.2.2.2.2.2.2.2.1, M.2.2.2.2.2.2.2.2.2.2.2.2.2.1, M.2.2.2.2.2.2.2.2.2.2.2.2.2.2.1, M.2.2.2.2.2.2.2.2.2.2.2.2.2.2.2.1, M.2.2.2.2.2.2.2.2.2.2.2.2.2.2.2.2.1, M.2.2.2.2.2.2.2.2.2.2.2.2.2.2.2.2.2.1, M.2.2.2.2.2.2.2.2.2.2.2.2.2.2.2.2.2.2.1, M.2.2.2.2.2.2.2.2.2.2.2.2.2.2.2.2.2.2.2.1, M.2.2.2.2.2.2.2.2.2.2.2.2.2.2.2.2.2.2.2.2)) := hD
    obtain rfl := Option.some.inj h
    exact xe_v C hP hD hS dX6_add_27
abbrev oX6_plain (aM : Nat → Nat) (K : Nat → ClassId) (q : Unit × (S6)) : xO := .inr (none, w6 aM K q.2)
def fX6_plain_42 (rec2 : S6 → Int32 → Int32 → Option (Unit × (S6))) (M : S6) (x1 : Int32) (x2 : Int32) (t1 : Int32) (t2 : Int32) (t3 : Int32) : Option (Unit × (S6)) := (if t1 < 0 ∨ 9 ≤ (t1).toNatClampNeg then none else rec2 (M.1, M.2.1, M.2.2.1, M.2.2.2.1, M.2.2.2.2.1, M.2.2.2.2.2.1, M.2.2.2.2.2.2.1, M.2.2.2.2.2.2.2.1, M.2.2.2.2.2.2.2.2.1, M.2.2.2.2.2.2.2.2.2.1, (upd M.2.2.2.2.2.2.2.2.2.2.1 (t1).toNatClampNeg (t2 + t3)), M.2.2.2.2.2.2.2.2.2.2.2.1, M.2.2.2.2.2.2.2.2.2.2.2.2.1, M.2.2.2.2.2.2.2.2.2.2.2.2.2.1, M.2.2.2.2.2.2.2.2.2.2.2.2.2.2.1, M.2.2.2.2.2.2.2.2.2.2.2.2.2.2.2.1, M.2.2.2.2.2.2.2.2.2.2.2.2.2.2.2.2.1, M.2.2.2.2.2.2.2.2.2.2.2.2.2.2.2.2.2.1, M.2.2.2.2.2.2.2.2.2.2.2.2.2.2.2.2.2.2.1, M.2.2.2.2.2.2.2.2.2.2.2.2.2.2.2.2.2.2.2.1, M.2.2.2.2.2.2.2.2.2.2.2.2.2.2.2.2.2.2.2.2) x1 (x2 + (1 : Int32)))
def fX6_plain_2 : Nat → S6 → Int32 → Int32 → Option (Unit × (S6))
  | 0 => fun _ _ _ => none
  | fu + 1 => fun M x1 x2 => (if x1 ≤ x2 then some ((), M) else (if M.2.2.2.2.1 = 0 then xbnd0 (fX6_number M (5 : Int32)) (fun v_1 s_2 => xbnd0 (fX6_add s_2 v_1) (fun v_3 s_4 => (if (1 : Int32) < 0 ∨ 9 ≤ ((1 : Int32)).toNatClampNeg then none else (if s_4.2.2.2.2.1 = 0 then fX6_plain_42 (fX6_plain_2 fu) s_4 x1 x2 (1 : Int32) (s_4.2.2.2.2.2.2.2.2.2.2.1 ((1 : Int32)).toNatClampNeg) (1 : Int32) else fX6_plain_42 (fX6_plain_2 fu) s_4 x1 x2 (1 : Int32) (s_4.2.2.2.2.2.2.2.2.2.2.1 ((1 : Int32)).toNatClampNeg) (0 : Int32))))) else some ((), M)))
def fX6_plain (M : S6) (p1 : Int32) : Option (Unit × (S6)) := fX6_plain_2 xF M p1 (0 : Int32)
set_option maxHeartbeats 4000000 in
set_option maxRecDepth 100000 in
theorem kX6_plain_42 {p : Program} {l : Launch} {e : Env} {s : State} {m : MethodId} {args : Array Value} {below : List Frame} {meth : Method} {c : Code} {D : va_G} {K : Nat → ClassId} {A : Nat → Prop} {aM : Nat → Nat} (C : xC p s m args meth c cX6_plain 3 none yX6_plain D K A []) (rec2 : S6 → Int32 → Int32 → Option (Unit × (S6))) (hrec2 : ∀ (M : S6) (x1 : Int32) (x2 : Int32) (r : Unit × (S6)), rec2 M x1 x2 = some r → ∀ (H : Heap) (locs : List Loc) (ls : Array Slot), va_P D vwCl (w6 aM K M) H → va_D A (w6 aM K M) → va_S A s.heap H locs → lv_has ls 3 [(0, .ref (aM 0)), (1, .int x1), (2, .int x2)] → W p l e (xR 1 23 (oX6_plain aM K r)) s m args below meth c H locs 0 0 (xQ below args s D K A (oX6_plain aM K r)) (F0 m 2 ls [])) : ∀ (M : S6) (x1 : Int32) (x2 : Int32) (t1 : Int32) (t2 : Int32) (t3 : Int32) (r : Unit × (S6)), fX6_plain_42  rec2 M x1 x2 t1 t2 t3 = some r → ∀ (H : Heap) (locs : List Loc) (ls : Array Slot), va_P D vwCl (w6 aM K M) H → va_D A (w6 aM K M) → va_S A s.heap H locs → lv_has ls 3 [(0, .ref (aM 0)), (1, .int x1), (2, .int x2)] → W p l e (xR 1 23 (oX6_plain aM K r)) s m args below meth c H locs 0 0 (xQ below args s D K A (oX6_plain aM K r)) (F0 m 42 ls [.int t3, .int t2, .int t1, .ref (aM 5)]) := by
  obtain ⟨hx, hb, hr, hml, hown, hK, hts, hA, hG, hlk, hte, hnm⟩ := id C
  intro M x1 x2 t1 t2 t3 r h H locs ls hP hD hS hl
  replace h : (if t1 < 0 ∨ 9 ≤ (t1).toNatClampNeg then none else rec2 (M.1, M.2.1, M.2.2.1, M.2.2.2.1, M.2.2.2.2.1, M.2.2.2.2.2.1, M.2.2.2.2.2.2.1, M.2.2.2.2.2.2.2.1, M.2.2.2.2.2.2.2.2.1, M.2.2.2.2.2.2.2.2.2.1, (upd M.2.2.2.2.2.2.2.2.2.2.1 (t1).toNatClampNeg (t2 + t3)), M.2.2.2.2.2.2.2.2.2.2.2.1, M.2.2.2.2.2.2.2.2.2.2.2.2.1, M.2.2.2.2.2.2.2.2.2.2.2.2.2.1, M.2.2.2.2.2.2.2.2.2.2.2.2.2.2.1, M.2.2.2.2.2.2.2.2.2.2.2.2.2.2.2.1, M.2.2.2.2.2.2.2.2.2.2.2.2.2.2.2.2.1, M.2.2.2.2.2.2.2.2.2.2.2.2.2.2.2.2.2.1, M.2.2.2.2.2.2.2.2.2.2.2.2.2.2.2.2.2.2.1, M.2.2.2.2.2.2.2.2.2.2.2.2.2.2.2.2.2.2.2.1, M.2.2.2.2.2.2.2.2.2.2.2.2.2.2.2.2.2.2.2.2) x1 (x2 + (1 : Int32))) = some r := h
  refine lv_iadd hx hb dX6_plain_42 ?_
  obtain ⟨hi9, h⟩ := xi_g h
  refine va_iast hx hb hK hP hD hS 5 0 rfl rfl hi9 dX6_plain_43 (fun H locs hP hD hS => ?_)
  have hP : va_P D vwCl (w6 aM K (M.1, M.2.1, M.2.2.1, M.2.2.2.1, M.2.2.2.2.1, M.2.2.2.2.2.1, M.2.2.2.2.2.2.1, M.2.2.2.2.2.2.2.1, M.2.2.2.2.2.2.2.2.1, M.2.2.2.2.2.2.2.2.2.1, (upd M.2.2.2.2.2.2.2.2.2.2.1 (t1).toNatClampNeg (t2 + t3)), M.2.2.2.2.2.2.2.2.2.2.2.1, M.2.2.2.2.2.2.2.2.2.2.2.2.1, M.2.2.2.2.2.2.2.2.2.2.2.2.2.1, M.2.2.2.2.2.2.2.2.2.2.2.2.2.2.1, M.2.2.2.2.2.2.2.2.2.2.2.2.2.2.2.1, M.2.2.2.2.2.2.2.2.2.2.2.2.2.2.2.2.1, M.2.2.2.2.2.2.2.2.2.2.2.2.2.2.2.2.2.1, M.2.2.2.2.2.2.2.2.2.2.2.2.2.2.2.2.2.2.1, M.2.2.2.2.2.2.2.2.2.2.2.2.2.2.2.2.2.2.2.1, M.2.2.2.2.2.2.2.2.2.2.2.2.2.2.2.2.2.2.2.2)) H := hP
  have hD : va_D A (w6 aM K (M.1, M.2.1, M.2.2.1, M.2.2.2.1, M.2.2.2.2.1, M.2.2.2.2.2.1, M.2.2.2.2.2.2.1, M.2.2.2.2.2.2.2.1, M.2.2.2.2.2.2.2.2.1, M.2.2.2.2.2.2.2.2.2.1, (upd M.2.2.2.2.2.2.2.2.2.2.1 (t1).toNatClampNeg (t2 + t3)), M.2.2.2.2.2.2.2.2.2.2.2.1, M.2.2.2.2.2.2.2.2.2.2.2.2.1, M.2.2.2.2.2.2.2.2.2.2.2.2.2.1, M.2.2.2.2.2.2.2.2.2.2.2.2.2.2.1, M.2.2.2.2.2.2.2.2.2.2.2.2.2.2.2.1, M.2.2.2.2.2.2.2.2.2.2.2.2.2.2.2.2.1, M.2.2.2.2.2.2.2.2.2.2.2.2.2.2.2.2.2.1, M.2.2.2.2.2.2.2.2.2.2.2.2.2.2.2.2.2.2.1, M.2.2.2.2.2.2.2.2.2.2.2.2.2.2.2.2.2.2.2.1, M.2.2.2.2.2.2.2.2.2.2.2.2.2.2.2.2.2.2.2.2)) := hD
  refine lv_iinc (v := (x2 + (1 : Int32))) (lv' := [(2, .int (x2 + (1 : Int32))), (0, .ref (aM 0)), (1, .int x1)]) hx hb dX6_plain_44 hl (k := 2) rfl (by rfl) (by decide) rfl (fun ls hl => ?_)
  refine lv_goto (tgt := 2) hx hb dX6_plain_47 (by decide) ?_
  exact hrec2 _ _ _ _ h _ _ _ hP hD hS (lv_sub hl [1, 2, 0] rfl)
set_option maxHeartbeats 4000000 in
set_option maxRecDepth 100000 in
theorem kX6_plain_2 {p : Program} {l : Launch} {e : Env} {s : State} {m : MethodId} {args : Array Value} {below : List Frame} {meth : Method} {c : Code} {D : va_G} {K : Nat → ClassId} {A : Nat → Prop} {aM : Nat → Nat} (C : xC p s m args meth c cX6_plain 3 none yX6_plain D K A []) : ∀ fu : Nat, ∀ (M : S6) (x1 : Int32) (x2 : Int32) (r : Unit × (S6)), fX6_plain_2 fu M x1 x2 = some r → ∀ (H : Heap) (locs : List Loc) (ls : Array Slot), va_P D vwCl (w6 aM K M) H → va_D A (w6 aM K M) → va_S A s.heap H locs → lv_has ls 3 [(0, .ref (aM 0)), (1, .int x1), (2, .int x2)] → W p l e (xR 1 23 (oX6_plain aM K r)) s m args below meth c H locs 0 0 (xQ below args s D K A (oX6_plain aM K r)) (F0 m 2 ls []) := by
  obtain ⟨hx, hb, hr, hml, hown, hK, hts, hA, hG, hlk, hte, hnm⟩ := id C
  intro fu
  induction fu with
  | zero =>
    intro M x1 x2 r h
    exact nomatch (show (none : Option (Unit × (S6))) = some r from h)
  | succ fu ih =>
    intro M x1 x2 r h H locs ls hP hD hS hl
    replace h : (if x1 ≤ x2 then some ((), M) else (if M.2.2.2.2.1 = 0 then xbnd0 (fX6_number M (5 : Int32)) (fun v_1 s_2 => xbnd0 (fX6_add s_2 v_1) (fun v_3 s_4 => (if (1 : Int32) < 0 ∨ 9 ≤ ((1 : Int32)).toNatClampNeg then none else (if s_4.2.2.2.2.1 = 0 then fX6_plain_42 (fX6_plain_2 fu) s_4 x1 x2 (1 : Int32) (s_4.2.2.2.2.2.2.2.2.2.2.1 ((1 : Int32)).toNatClampNeg) (1 : Int32) else fX6_plain_42 (fX6_plain_2 fu) s_4 x1 x2 (1 : Int32) (s_4.2.2.2.2.2.2.2.2.2.2.1 ((1 : Int32)).toNatClampNeg) (0 : Int32))))) else some ((), M))) = some r := h
    refine lv_iload_n hx hb dX6_plain_2 rfl (lv_at hl 2 rfl) ?_
    refine lv_iload_n hx hb dX6_plain_3 rfl (lv_at hl 1 rfl) ?_
    refine lv_icmp_ge (tgt := 50) hx hb dX6_plain_4 (by decide) (fun c9 => ?_) (fun c9 => ?_)
    · replace h := xi_t c9 h
      obtain rfl := Option.some.inj h
      exact xe_v C hP hD hS dX6_plain_50
    · replace h := xi_f c9 h
      refine lv_aload_n hx hb dX6_plain_7 rfl (lv_at hl 0 rfl) ?_
      refine va_get (D := D) (ci := 6) (v := .int M.2.2.2.2.1) (C := RX6) (T := TX6) (N := 21) hx hb hts xu_X6 hown hK hP 0 rfl rfl 4 (by decide) (hts _ xw_511) (fun _ h9 => h9) rfl dX6_plain_8 ?_
      refine lv_if_ne (tgt := 50) hx hb dX6_plain_11 (by decide) (fun c9 => ?_) (fun c9 => ?_)
      · replace h := xi_f c9 h
        obtain rfl := Option.some.inj h
        exact xe_v C hP hD hS dX6_plain_50
      · replace h := xi_t c9 h
        refine lv_aload_n hx hb dX6_plain_14 rfl (lv_at hl 0 rfl) ?_
        refine lv_aload_n hx hb dX6_plain_15 rfl (lv_at hl 0 rfl) ?_
        refine lv_iconst (v := (5 : Int32)) hx hb dX6_plain_16 (by decide) ?_
        obtain ⟨v_1, s_2, hc9, h⟩ := xi_d h
        refine xc_V (As := [.int (5 : Int32)]) (ws' := w6 aM K s_2) C (mX6_number l D K aM _ _ _ _ hc9) xgi_X6_66 xd_X6_number ⟨Nat.le_of_ble_eq_true rfl, Nat.le_of_ble_eq_true rfl⟩ ⟨Nat.zero_le _, Nat.zero_le _⟩ hl rfl (Nat.le_of_ble_eq_true rfl) dX6_plain_17 hP hD hS 0 6 rfl rfl rfl [0, 1, 2, 3, 4, 5, 6, 7, 8, 9, 10, 11] rfl rfl [(0, w6 aM K s_2)] rfl rfl rfl (List.forall_mem_cons.mpr ⟨Nat.le_of_ble_eq_true rfl, (fun _ h => absurd h List.not_mem_nil)⟩) (fun H locs hP hD hS => ?_)
        refine W.eq (g2 := F0 m 20 ls [.int v_1, .ref (aM 0)]) rfl ?_
        obtain ⟨v_3, s_4, hc9, h⟩ := xi_d h
        refine xc_V (As := [.int v_1]) (ws' := w6 aM K s_4) C (mX6_add l D K aM _ _ _ _ hc9) xgi_X6_81 xd_X6_add ⟨Nat.le_of_ble_eq_true rfl, Nat.le_of_ble_eq_true rfl⟩ ⟨Nat.zero_le _, Nat.zero_le _⟩ hl rfl (Nat.le_of_ble_eq_true rfl) dX6_plain_20 hP hD hS 0 6 rfl rfl rfl [0, 1, 2, 3, 4, 5, 6, 7, 8, 9, 10, 11] rfl rfl [(0, w6 aM K s_4)] rfl rfl rfl (List.forall_mem_cons.mpr ⟨Nat.le_of_ble_eq_true rfl, (fun _ h => absurd h List.not_mem_nil)⟩) (fun H locs hP hD hS => ?_)
        refine W.eq (g2 := F0 m 23 ls []) rfl ?_
        refine lv_aload_n hx hb dX6_plain_23 rfl (lv_at hl 0 rfl) ?_
        refine va_get (D := D) (ci := 6) (v := .ref (aM 5)) (C := RX6) (T := TX6) (N := 21) hx hb hts xu_X6 hown hK hP 0 rfl rfl 10 (by decide) (hts _ xw_517) (fun _ h9 => h9) rfl dX6_plain_24 ?_
        refine lv_iconst (v := (1 : Int32)) hx hb dX6_plain_27 (by decide) ?_
        refine lv_dup2_11 hx hb dX6_plain_28 rfl rfl ?_
        obtain ⟨hi9, h⟩ := xi_g h
        refine va_iald hx hb hK hP 5 0 rfl rfl hi9 dX6_plain_29 ?_
        refine lv_aload_n hx hb dX6_plain_30 rfl (lv_at hl 0 rfl) ?_
        refine va_get (D := D) (ci := 6) (v := .int s_4.2.2.2.2.1) (C := RX6) (T := TX6) (N := 21) hx hb hts xu_X6 hown hK hP 0 rfl rfl 4 (by decide) (hts _ xw_511) (fun _ h9 => h9) rfl dX6_plain_31 ?_
        refine lv_if_eq (tgt := 41) hx hb dX6_plain_34 (by decide) (fun c9 => ?_) (fun c9 => ?_)
        · replace h := xi_t c9 h
          refine lv_iconst (v := (1 : Int32)) hx hb dX6_plain_41 (by decide) ?_
          exact kX6_plain_42 C _ ih _ _ _ _ _ _ _ h _ _ _ hP hD hS (lv_sub hl [0, 1, 2] rfl)
        · replace h := xi_f c9 h
          refine lv_iconst (v := (0 : Int32)) hx hb dX6_plain_37 (by decide) ?_
          refine lv_goto (tgt := 42) hx hb dX6_plain_38 (by decide) ?_
          exact kX6_plain_42 C _ ih _ _ _ _ _ _ _ h _ _ _ hP hD hS (lv_sub hl [0, 1, 2] rfl)
set_option maxHeartbeats 4000000 in
set_option maxRecDepth 100000 in
theorem mX6_plain (l : Launch) (D : va_G) (K : Nat → ClassId) (aM : Nat → Nat) (sz : Nat) (M : S6) (p1 : Int32) (r : Unit × (S6)) (h : fX6_plain M p1 = some r) : xMet l yX6_plain cX6_plain 3 none 1 23 D K [.ref (aM 0), .int p1] sz (w6 aM K M) (oX6_plain aM K r) := by
  refine xm_of _ (by decide +kernel) (Nat.le_of_ble_eq_true rfl) (fun p e s m args below meth c A C hP hD ls hl => ?_)
  have hl : lv_has ls 3 [(0, .ref (aM 0)), (1, .int p1)] := hl
  have hS : va_S A s.heap s.heap [] := va_S.rf
  obtain ⟨hx, hb, hr, hml, hown, hK, hts, hA, hG, hlk, hte, hnm⟩ := id C
  replace h : fX6_plain_2 xF M p1 (0 : Int32) = some r := h
  refine lv_iconst (v := (0 : Int32)) hx hb dX6_plain_0 (by decide) ?_
  refine lv_istore_n (lv' := [(2, .int (0 : Int32)), (0, .ref (aM 0)), (1, .int p1)]) hx hb dX6_plain_1 rfl hl (by decide) rfl (fun ls hl => ?_)
  exact kX6_plain_2 C _ _ _ _ _ h _ _ _ hP hD hS (lv_sub hl [1, 2, 0] rfl)
abbrev oX6_readMap (aM : Nat → Nat) (K : Nat → ClassId) (q : Unit × (S6)) : xO := .inr (none, w6 aM K q.2)
def fX6_readMap_168 (rec126 : S6 → Int32 → Int32 → Option (Unit × (S6))) : Nat → S6 → Int32 → Int32 → Int32 → Int32 → Option (Unit × (S6))
  | 0 => fun _ _ _ _ _ => none
  | fu + 1 => fun M x2 x3 x5 x6 => (if x6 ≤ 0 then (if (0 : Int32) < 0 ∨ 4 ≤ ((0 : Int32)).toNatClampNeg then none else (if x3 < 0 ∨ 12 ≤ (x3).toNatClampNeg then none else rec126 (M.1, M.2.1, M.2.2.1, M.2.2.2.1, M.2.2.2.2.1, M.2.2.2.2.2.1, M.2.2.2.2.2.2.1, M.2.2.2.2.2.2.2.1, M.2.2.2.2.2.2.2.2.1, M.2.2.2.2.2.2.2.2.2.1, M.2.2.2.2.2.2.2.2.2.2.1, M.2.2.2.2.2.2.2.2.2.2.2.1, M.2.2.2.2.2.2.2.2.2.2.2.2.1, M.2.2.2.2.2.2.2.2.2.2.2.2.2.1, M.2.2.2.2.2.2.2.2.2.2.2.2.2.2.1, M.2.2.2.2.2.2.2.2.2.2.2.2.2.2.2.1, M.2.2.2.2.2.2.2.2.2.2.2.2.2.2.2.2.1, M.2.2.2.2.2.2.2.2.2.2.2.2.2.2.2.2.2.1, M.2.2.2.2.2.2.2.2.2.2.2.2.2.2.2.2.2.2.1, (upd M.2.2.2.2.2.2.2.2.2.2.2.2.2.2.2.2.2.2.2.1 (x3).toNatClampNeg x5), (upd M.2.2.2.2.2.2.2.2.2.2.2.2.2.2.2.2.2.2.2.2 ((0 : Int32)).toNatClampNeg x5)) x2 (x3 + (1 : Int32)))) else (if (x6 - (1 : Int32)) < 0 ∨ 4 ≤ ((x6 - (1 : Int32))).toNatClampNeg then none else (if x6 < 0 ∨ 4 ≤ (x6).toNatClampNeg then none else fX6_readMap_168 rec126 fu (M.1, M.2.1, M.2.2.1, M.2.2.2.1, M.2.2.2.2.1, M.2.2.2.2.2.1, M.2.2.2.2.2.2.1, M.2.2.2.2.2.2.2.1, M.2.2.2.2.2.2.2.2.1, M.2.2.2.2.2.2.2.2.2.1, M.2.2.2.2.2.2.2.2.2.2.1, M.2.2.2.2.2.2.2.2.2.2.2.1, M.2.2.2.2.2.2.2.2.2.2.2.2.1, M.2.2.2.2.2.2.2.2.2.2.2.2.2.1, M.2.2.2.2.2.2.2.2.2.2.2.2.2.2.1, M.2.2.2.2.2.2.2.2.2.2.2.2.2.2.2.1, M.2.2.2.2.2.2.2.2.2.2.2.2.2.2.2.2.1, M.2.2.2.2.2.2.2.2.2.2.2.2.2.2.2.2.2.1, M.2.2.2.2.2.2.2.2.2.2.2.2.2.2.2.2.2.2.1, M.2.2.2.2.2.2.2.2.2.2.2.2.2.2.2.2.2.2.2.1, (upd M.2.2.2.2.2.2.2.2.2.2.2.2.2.2.2.2.2.2.2.2 (x6).toNatClampNeg (M.2.2.2.2.2.2.2.2.2.2.2.2.2.2.2.2.2.2.2.2 ((x6 - (1 : Int32))).toNatClampNeg))) x2 x3 x5 (x6 + (-1 : Int32)))))
def fX6_readMap_126 : Nat → S6 → Int32 → Int32 → Option (Unit × (S6))
  | 0 => fun _ _ _ => none
  | fu + 1 => fun M x2 x3 => (if ((4 : Int32) * M.2.2.2.2.2.2.2.2.2.2.2.2.2.2.1) ≤ x3 then some ((), M) else (if x2 = 0 then some ((), M) else (if M.2.2.2.2.1 = 0 then (if x3 < 0 ∨ 12 ≤ (x3).toNatClampNeg then none else (if (M.2.2.2.2.2.2.2.2.2.2.2.2.2.2.2.2.2.2.2.1 (x3).toNatClampNeg) < 0 ∨ 4 ≤ ((M.2.2.2.2.2.2.2.2.2.2.2.2.2.2.2.2.2.2.2.1 (x3).toNatClampNeg)).toNatClampNeg then none else fX6_readMap_168 (fX6_readMap_126 fu) xF M x2 x3 (M.2.2.2.2.2.2.2.2.2.2.2.2.2.2.2.2.2.2.2.2 ((M.2.2.2.2.2.2.2.2.2.2.2.2.2.2.2.2.2.2.2.1 (x3).toNatClampNeg)).toNatClampNeg) (M.2.2.2.2.2.2.2.2.2.2.2.2.2.2.2.2.2.2.2.1 (x3).toNatClampNeg))) else some ((), M))))
def fX6_readMap_106 : Nat → S6 → Int32 → Int32 → Option (Unit × (S6))
  | 0 => fun _ _ _ => none
  | fu + 1 => fun M x2 x3 => (if (4 : Int32) ≤ x3 then fX6_readMap_126 xF M x2 (0 : Int32) else (if x3 < 0 ∨ 4 ≤ (x3).toNatClampNeg then none else fX6_readMap_106 fu (M.1, M.2.1, M.2.2.1, M.2.2.2.1, M.2.2.2.2.1, M.2.2.2.2.2.1, M.2.2.2.2.2.2.1, M.2.2.2.2.2.2.2.1, M.2.2.2.2.2.2.2.2.1, M.2.2.2.2.2.2.2.2.2.1, M.2.2.2.2.2.2.2.2.2.2.1, M.2.2.2.2.2.2.2.2.2.2.2.1, M.2.2.2.2.2.2.2.2.2.2.2.2.1, M.2.2.2.2.2.2.2.2.2.2.2.2.2.1, M.2.2.2.2.2.2.2.2.2.2.2.2.2.2.1, M.2.2.2.2.2.2.2.2.2.2.2.2.2.2.2.1, M.2.2.2.2.2.2.2.2.2.2.2.2.2.2.2.2.1, M.2.2.2.2.2.2.2.2.2.2.2.2.2.2.2.2.2.1, M.2.2.2.2.2.2.2.2.2.2.2.2.2.2.2.2.2.2.1, M.2.2.2.2.2.2.2.2.2.2.2.2.2.2.2.2.2.2.2.1, (upd M.2.2.2.2.2.2.2.2.2.2.2.2.2.2.2.2.2.2.2.2 (x3).toNatClampNeg x3)) x2 (x3 + (1 : Int32))))
def fX6_readMap_103 (M : S6) (t0 : Int32) : Option (Unit × (S6)) := fX6_readMap_106 xF M t0 (0 : Int32)
def fX6_readMap_89 (M : S6) : Option (Unit × (S6)) := xbnd0 (fX6_number M (1 : Int32)) (fun v_3 s_4 => (if v_3 = (1 : Int32) then fX6_readMap_103 s_4 (1 : Int32) else fX6_readMap_103 s_4 (0 : Int32)))
def fX6_readMap_80 (rec29 : S6 → Int32 → Int32 → Option (Unit × (S6))) (M : S6) (x1 : Int32) (x2 : Int32) (t1 : Int32) : Option (Unit × (S6)) := (if t1 = 0 ∨ t1 = 1 then rec29 (M.1, M.2.1, M.2.2.1, M.2.2.2.1, t1, M.2.2.2.2.2.1, M.2.2.2.2.2.2.1, M.2.2.2.2.2.2.2.1, M.2.2.2.2.2.2.2.2.1, M.2.2.2.2.2.2.2.2.2.1, M.2.2.2.2.2.2.2.2.2.2.1, M.2.2.2.2.2.2.2.2.2.2.2.1, M.2.2.2.2.2.2.2.2.2.2.2.2.1, M.2.2.2.2.2.2.2.2.2.2.2.2.2.1, M.2.2.2.2.2.2.2.2.2.2.2.2.2.2.1, M.2.2.2.2.2.2.2.2.2.2.2.2.2.2.2.1, M.2.2.2.2.2.2.2.2.2.2.2.2.2.2.2.2.1, M.2.2.2.2.2.2.2.2.2.2.2.2.2.2.2.2.2.1, M.2.2.2.2.2.2.2.2.2.2.2.2.2.2.2.2.2.2.1, M.2.2.2.2.2.2.2.2.2.2.2.2.2.2.2.2.2.2.2.1, M.2.2.2.2.2.2.2.2.2.2.2.2.2.2.2.2.2.2.2.2) x1 (x2 + (1 : Int32)) else none)
def fX6_readMap_29 : Nat → S6 → Int32 → Int32 → Option (Unit × (S6))
  | 0 => fun _ _ _ => none
  | fu + 1 => fun M x1 x2 => (if ((4 : Int32) * M.2.2.2.2.2.2.2.2.2.2.2.2.2.2.1) ≤ x2 then fX6_readMap_89 M else (if M.2.2.2.2.1 = 0 then xbnd0 (fX6_number M (2 : Int32)) (fun v_1 s_2 => (if x2 < 0 ∨ 12 ≤ (x2).toNatClampNeg then none else (if s_2.2.2.2.2.1 = 0 then (if x2 < 0 ∨ 12 ≤ (x2).toNatClampNeg then none else (if ((upd s_2.2.2.2.2.2.2.2.2.2.2.2.2.2.2.2.2.2.2.2.1 (x2).toNatClampNeg v_1) (x2).toNatClampNeg) < x1 then fX6_readMap_80 (fX6_readMap_29 fu) (s_2.1, s_2.2.1, s_2.2.2.1, s_2.2.2.2.1, s_2.2.2.2.2.1, s_2.2.2.2.2.2.1, s_2.2.2.2.2.2.2.1, s_2.2.2.2.2.2.2.2.1, s_2.2.2.2.2.2.2.2.2.1, s_2.2.2.2.2.2.2.2.2.2.1, s_2.2.2.2.2.2.2.2.2.2.2.1, s_2.2.2.2.2.2.2.2.2.2.2.2.1, s_2.2.2.2.2.2.2.2.2.2.2.2.2.1, s_2.2.2.2.2.2.2.2.2.2.2.2.2.2.1, s_2.2.2.2.2.2.2.2.2.2.2.2.2.2.2.1, s_2.2.2.2.2.2.2.2.2.2.2.2.2.2.2.2.1, s_2.2.2.2.2.2.2.2.2.2.2.2.2.2.2.2.2.1, s_2.2.2.2.2.2.2.2.2.2.2.2.2.2.2.2.2.2.1, s_2.2.2.2.2.2.2.2.2.2.2.2.2.2.2.2.2.2.2.1, (upd s_2.2.2.2.2.2.2.2.2.2.2.2.2.2.2.2.2.2.2.2.1 (x2).toNatClampNeg v_1), s_2.2.2.2.2.2.2.2.2.2.2.2.2.2.2.2.2.2.2.2.2) x1 x2 (0 : Int32) else fX6_readMap_80 (fX6_readMap_29 fu) (s_2.1, s_2.2.1, s_2.2.2.1, s_2.2.2.2.1, s_2.2.2.2.2.1, s_2.2.2.2.2.2.1, s_2.2.2.2.2.2.2.1, s_2.2.2.2.2.2.2.2.1, s_2.2.2.2.2.2.2.2.2.1, s_2.2.2.2.2.2.2.2.2.2.1, s_2.2.2.2.2.2.2.2.2.2.2.1, s_2.2.2.2.2.2.2.2.2.2.2.2.1, s_2.2.2.2.2.2.2.2.2.2.2.2.2.1, s_2.2.2.2.2.2.2.2.2.2.2.2.2.2.1, s_2.2.2.2.2.2.2.2.2.2.2.2.2.2.2.1, s_2.2.2.2.2.2.2.2.2.2.2.2.2.2.2.2.1, s_2.2.2.2.2.2.2.2.2.2.2.2.2.2.2.2.2.1, s_2.2.2.2.2.2.2.2.2.2.2.2.2.2.2.2.2.2.1, s_2.2.2.2.2.2.2.2.2.2.2.2.2.2.2.2.2.2.2.1, (upd s_2.2.2.2.2.2.2.2.2.2.2.2.2.2.2.2.2.2.2.2.1 (x2).toNatClampNeg v_1), s_2.2.2.2.2.2.2.2.2.2.2.2.2.2.2.2.2.2.2.2.2) x1 x2 (1 : Int32))) else fX6_readMap_80 (fX6_readMap_29 fu) (s_2.1, s_2.2.1, s_2.2.2.1, s_2.2.2.2.1, s_2.2.2.2.2.1, s_2.2.2.2.2.2.1, s_2.2.2.2.2.2.2.1, s_2.2.2.2.2.2.2.2.1, s_2.2.2.2.2.2.2.2.2.1, s_2.2.2.2.2.2.2.2.2.2.1, s_2.2.2.2.2.2.2.2.2.2.2.1, s_2.2.2.2.2.2.2.2.2.2.2.2.1, s_2.2.2.2.2.2.2.2.2.2.2.2.2.1, s_2.2.2.2.2.2.2.2.2.2.2.2.2.2.1, s_2.2.2.2.2.2.2.2.2.2.2.2.2.2.2.1, s_2.2.2.2.2.2.2.2.2.2.2.2.2.2.2.2.1, s_2.2.2.2.2.2.2.2.2.2.2.2.2.2.2.2.2.1, s_2.2.2.2.2.2.2.2.2.2.2.2.2.2.2.2.2.2.1, s_2.2.2.2.2.2.2.2.2.2.2.2.2.2.2.2.2.2.2.1, (upd s_2.2.2.2.2.2.2.2.2.2.2.2.2.2.2.2.2.2.2.2.1 (x2).toNatClampNeg v_1), s_2.2.2.2.2.2.2.2.2.2.2.2.2.2.2.2.2.2.2.2.2) x1 x2 (1 : Int32)))) else fX6_readMap_89 M))
def fX6_readMap_2 : Nat → S6 → Int32 → Int32 → Option (Unit × (S6))
  | 0 => fun _ _ _ => none
  | fu + 1 => fun M x1 x2 => (if (12 : Int32) ≤ x2 then (if x1 = (1 : Int32) then some ((), M) else fX6_readMap_29 xF M x1 (0 : Int32)) else (if x2 < 0 ∨ 12 ≤ (x2).toNatClampNeg then none else fX6_readMap_2 fu (M.1, M.2.1, M.2.2.1, M.2.2.2.1, M.2.2.2.2.1, M.2.2.2.2.2.1, M.2.2.2.2.2.2.1, M.2.2.2.2.2.2.2.1, M.2.2.2.2.2.2.2.2.1, M.2.2.2.2.2.2.2.2.2.1, M.2.2.2.2.2.2.2.2.2.2.1, M.2.2.2.2.2.2.2.2.2.2.2.1, M.2.2.2.2.2.2.2.2.2.2.2.2.1, M.2.2.2.2.2.2.2.2.2.2.2.2.2.1, M.2.2.2.2.2.2.2.2.2.2.2.2.2.2.1, M.2.2.2.2.2.2.2.2.2.2.2.2.2.2.2.1, M.2.2.2.2.2.2.2.2.2.2.2.2.2.2.2.2.1, M.2.2.2.2.2.2.2.2.2.2.2.2.2.2.2.2.2.1, M.2.2.2.2.2.2.2.2.2.2.2.2.2.2.2.2.2.2.1, (upd M.2.2.2.2.2.2.2.2.2.2.2.2.2.2.2.2.2.2.2.1 (x2).toNatClampNeg (0 : Int32)), M.2.2.2.2.2.2.2.2.2.2.2.2.2.2.2.2.2.2.2.2) x1 (x2 + (1 : Int32))))
def fX6_readMap (M : S6) (p1 : Int32) : Option (Unit × (S6)) := fX6_readMap_2 xF M p1 (0 : Int32)
set_option maxHeartbeats 4000000 in
set_option maxRecDepth 100000 in
theorem kX6_readMap_168 {p : Program} {l : Launch} {e : Env} {s : State} {m : MethodId} {args : Array Value} {below : List Frame} {meth : Method} {c : Code} {D : va_G} {K : Nat → ClassId} {A : Nat → Prop} {aM : Nat → Nat} (C : xC p s m args meth c cX6_readMap 7 none yX6_readMap D K A []) (rec126 : S6 → Int32 → Int32 → Option (Unit × (S6))) (hrec126 : ∀ (M : S6) (x2 : Int32) (x3 : Int32) (r : Unit × (S6)), rec126 M x2 x3 = some r → ∀ (H : Heap) (locs : List Loc) (ls : Array Slot), va_P D vwCl (w6 aM K M) H → va_D A (w6 aM K M) → va_S A s.heap H locs → lv_has ls 7 [(0, .ref (aM 0)), (2, .int x2), (3, .int x3)] → W p l e (xR 1 23 (oX6_readMap aM K r)) s m args below meth c H locs 0 0 (xQ below args s D K A (oX6_readMap aM K r)) (F0 m 126 ls [])) : ∀ fu : Nat, ∀ (M : S6) (x2 : Int32) (x3 : Int32) (x5 : Int32) (x6 : Int32) (r : Unit × (S6)), fX6_readMap_168  rec126 fu M x2 x3 x5 x6 = some r → ∀ (H : Heap) (locs : List Loc) (ls : Array Slot), va_P D vwCl (w6 aM K M) H → va_D A (w6 aM K M) → va_S A s.heap H locs → lv_has ls 7 [(0, .ref (aM 0)), (2, .int x2), (3, .int x3), (5, .int x5), (6, .int x6)] → W p l e (xR 1 23 (oX6_readMap aM K r)) s m args below meth c H locs 0 0 (xQ below args s D K A (oX6_readMap aM K r)) (F0 m 168 ls []) := by
  obtain ⟨hx, hb, hr, hml, hown, hK, hts, hA, hG, hlk, hte, hnm⟩ := id C
  intro fu
  induction fu with
  | zero =>
    intro M x2 x3 x5 x6 r h
    exact nomatch (show (none : Option (Unit × (S6))) = some r from h)
  | succ fu ih =>
    intro M x2 x3 x5 x6 r h H locs ls hP hD hS hl
    replace h : (if x6 ≤ 0 then (if (0 : Int32) < 0 ∨ 4 ≤ ((0 : Int32)).toNatClampNeg then none else (if x3 < 0 ∨ 12 ≤ (x3).toNatClampNeg then none else rec126 (M.1, M.2.1, M.2.2.1, M.2.2.2.1, M.2.2.2.2.1, M.2.2.2.2.2.1, M.2.2.2.2.2.2.1, M.2.2.2.2.2.2.2.1, M.2.2.2.2.2.2.2.2.1, M.2.2.2.2.2.2.2.2.2.1, M.2.2.2.2.2.2.2.2.2.2.1, M.2.2.2.2.2.2.2.2.2.2.2.1, M.2.2.2.2.2.2.2.2.2.2.2.2.1, M.2.2.2.2.2.2.2.2.2.2.2.2.2.1, M.2.2.2.2.2.2.2.2.2.2.2.2.2.2.1, M.2.2.2.2.2.2.2.2.2.2.2.2.2.2.2.1, M.2.2.2.2.2.2.2.2.2.2.2.2.2.2.2.2.1, M.2.2.2.2.2.2.2.2.2.2.2.2.2.2.2.2.2.1, M.2.2.2.2.2.2.2.2.2.2.2.2.2.2.2.2.2.2.1, (upd M.2.2.2.2.2.2.2.2.2.2.2.2.2.2.2.2.2.2.2.1 (x3).toNatClampNeg x5), (upd M.2.2.2.2.2.2.2.2.2.2.2.2.2.2.2.2.2.2.2.2 ((0 : Int32)).toNatClampNeg x5)) x2 (x3 + (1 : Int32)))) else (if (x6 - (1 : Int32)) < 0 ∨ 4 ≤ ((x6 - (1 : Int32))).toNatClampNeg then none else (if x6 < 0 ∨ 4 ≤ (x6).toNatClampNeg then none else fX6_readMap_168 rec126 fu (M.1, M.2.1, M.2.2.1, M.2.2.2.1, M.2.2.2.2.1, M.2.2.2.2.2.1, M.2.2.2.2.2.2.1, M.2.2.2.2.2.2.2.1, M.2.2.2.2.2.2.2.2.1, M.2.2.2.2.2.2.2.2.2.1, M.2.2.2.2.2.2.2.2.2.2.1, M.2.2.2.2.2.2.2.2.2.2.2.1, M.2.2.2.2.2.2.2.2.2.2.2.2.1, M.2.2.2.2.2.2.2.2.2.2.2.2.2.1, M.2.2.2.2.2.2.2.2.2.2.2.2.2.2.1, M.2.2.2.2.2.2.2.2.2.2.2.2.2.2.2.1, M.2.2.2.2.2.2.2.2.2.2.2.2.2.2.2.2.1, M.2.2.2.2.2.2.2.2.2.2.2.2.2.2.2.2.2.1, M.2.2.2.2.2.2.2.2.2.2.2.2.2.2.2.2.2.2.1, M.2.2.2.2.2.2.2.2.2.2.2.2.2.2.2.2.2.2.2.1, (upd M.2.2.2.2.2.2.2.2.2.2.2.2.2.2.2.2.2.2.2.2 (x6).toNatClampNeg (M.2.2.2.2.2.2.2.2.2.2.2.2.2.2.2.2.2.2.2.2 ((x6 - (1 : Int32))).toNatClampNeg))) x2 x3 x5 (x6 + (-1 : Int32))))) = some r := h
    refine lv_iload hx hb dX6_readMap_168 (lv_at hl 4 rfl) ?_
    refine lv_if_le (tgt := 195) hx hb dX6_readMap_170 (by decide) (fun c9 => ?_) (fun c9 => ?_)
    · replace h := xi_t c9 h
      refine lv_aload_n hx hb dX6_readMap_195 rfl (lv_at hl 0 rfl) ?_
      refine va_get (D := D) (ci := 6) (v := .ref (aM 11)) (C := RX6) (T := TX6) (N := 21) hx hb hts xu_X6 hown hK hP 0 rfl rfl 20 (by decide) (hts _ xw_527) (fun _ h9 => h9) rfl dX6_readMap_196 ?_
      refine lv_iconst (v := (0 : Int32)) hx hb dX6_readMap_199 (by decide) ?_
      refine lv_iload hx hb dX6_readMap_200 (lv_at hl 3 rfl) ?_
      obtain ⟨hi9, h⟩ := xi_g h
      refine va_iast hx hb hK hP hD hS 11 0 rfl rfl hi9 dX6_readMap_202 (fun H locs hP hD hS => ?_)
      have hP : va_P D vwCl (w6 aM K (M.1, M.2.1, M.2.2.1, M.2.2.2.1, M.2.2.2.2.1, M.2.2.2.2.2.1, M.2.2.2.2.2.2.1, M.2.2.2.2.2.2.2.1, M.2.2.2.2.2.2.2.2.1, M.2.2.2.2.2.2.2.2.2.1, M.2.2.2.2.2.2.2.2.2.2.1, M.2.2.2.2.2.2.2.2.2.2.2.1, M.2.2.2.2.2.2.2.2.2.2.2.2.1, M.2.2.2.2.2.2.2.2.2.2.2.2.2.1, M.2.2.2.2.2.2.2.2.2.2.2.2.2.2.1, M.2.2.2.2.2.2.2.2.2.2.2.2.2.2.2.1, M.2.2.2.2.2.2.2.2.2.2.2.2.2.2.2.2.1, M.2.2.2.2.2.2.2.2.2.2.2.2.2.2.2.2.2.1, M.2.2.2.2.2.2.2.2.2.2.2.2.2.2.2.2.2.2.1, M.2.2.2.2.2.2.2.2.2.2.2.2.2.2.2.2.2.2.2.1, (upd M.2.2.2.2.2.2.2.2.2.2.2.2.2.2.2.2.2.2.2.2 ((0 : Int32)).toNatClampNeg x5))) H := hP
      have hD : va_D A (w6 aM K (M.1, M.2.1, M.2.2.1, M.2.2.2.1, M.2.2.2.2.1, M.2.2.2.2.2.1, M.2.2.2.2.2.2.1, M.2.2.2.2.2.2.2.1, M.2.2.2.2.2.2.2.2.1, M.2.2.2.2.2.2.2.2.2.1, M.2.2.2.2.2.2.2.2.2.2.1, M.2.2.2.2.2.2.2.2.2.2.2.1, M.2.2.2.2.2.2.2.2.2.2.2.2.1, M.2.2.2.2.2.2.2.2.2.2.2.2.2.1, M.2.2.2.2.2.2.2.2.2.2.2.2.2.2.1, M.2.2.2.2.2.2.2.2.2.2.2.2.2.2.2.1, M.2.2.2.2.2.2.2.2.2.2.2.2.2.2.2.2.1, M.2.2.2.2.2.2.2.2.2.2.2.2.2.2.2.2.2.1, M.2.2.2.2.2.2.2.2.2.2.2.2.2.2.2.2.2.2.1, M.2.2.2.2.2.2.2.2.2.2.2.2.2.2.2.2.2.2.2.1, (upd M.2.2.2.2.2.2.2.2.2.2.2.2.2.2.2.2.2.2.2.2 ((0 : Int32)).toNatClampNeg x5))) := hD
      refine lv_aload_n hx hb dX6_readMap_203 rfl (lv_at hl 0 rfl) ?_
      refine va_get (D := D) (ci := 6) (v := .ref (aM 10)) (C := RX6) (T := TX6) (N := 21) hx hb hts xu_X6 hown hK hP 0 rfl rfl 19 (by decide) (hts _ xw_526) (fun _ h9 => h9) rfl dX6_readMap_204 ?_
      refine lv_iload_n hx hb dX6_readMap_207 rfl (lv_at hl 2 rfl) ?_
      refine lv_iload hx hb dX6_readMap_208 (lv_at hl 3 rfl) ?_
      obtain ⟨hi9, h⟩ := xi_g h
      refine va_iast hx hb hK hP hD hS 10 0 rfl rfl hi9 dX6_readMap_210 (fun H locs hP hD hS => ?_)
      have hP : va_P D vwCl (w6 aM K (M.1, M.2.1, M.2.2.1, M.2.2.2.1, M.2.2.2.2.1, M.2.2.2.2.2.1, M.2.2.2.2.2.2.1, M.2.2.2.2.2.2.2.1, M.2.2.2.2.2.2.2.2.1, M.2.2.2.2.2.2.2.2.2.1, M.2.2.2.2.2.2.2.2.2.2.1, M.2.2.2.2.2.2.2.2.2.2.2.1, M.2.2.2.2.2.2.2.2.2.2.2.2.1, M.2.2.2.2.2.2.2.2.2.2.2.2.2.1, M.2.2.2.2.2.2.2.2.2.2.2.2.2.2.1, M.2.2.2.2.2.2.2.2.2.2.2.2.2.2.2.1, M.2.2.2.2.2.2.2.2.2.2.2.2.2.2.2.2.1, M.2.2.2.2.2.2.2.2.2.2.2.2.2.2.2.2.2.1, M.2.2.2.2.2.2.2.2.2.2.2.2.2.2.2.2.2.2.1, (upd M.2.2.2.2.2.2.2.2.2.2.2.2.2.2.2.2.2.2.2.1 (x3).toNatClampNeg x5), (upd M.2.2.2.2.2.2.2.2.2.2.2.2.2.2.2.2.2.2.2.2 ((0 : Int32)).toNatClampNeg x5))) H := hP
      have hD : va_D A (w6 aM K (M.1, M.2.1, M.2.2.1, M.2.2.2.1, M.2.2.2.2.1, M.2.2.2.2.2.1, M.2.2.2.2.2.2.1, M.2.2.2.2.2.2.2.1, M.2.2.2.2.2.2.2.2.1, M.2.2.2.2.2.2.2.2.2.1, M.2.2.2.2.2.2.2.2.2.2.1, M.2.2.2.2.2.2.2.2.2.2.2.1, M.2.2.2.2.2.2.2.2.2.2.2.2.1, M.2.2.2.2.2.2.2.2.2.2.2.2.2.1, M.2.2.2.2.2.2.2.2.2.2.2.2.2.2.1, M.2.2.2.2.2.2.2.2.2.2.2.2.2.2.2.1, M.2.2.2.2.2.2.2.2.2.2.2.2.2.2.2.2.1, M.2.2.2.2.2.2.2.2.2.2.2.2.2.2.2.2.2.1, M.2.2.2.2.2.2.2.2.2.2.2.2.2.2.2.2.2.2.1, (upd M.2.2.2.2.2.2.2.2.2.2.2.2.2.2.2.2.2.2.2.1 (x3).toNatClampNeg x5), (upd M.2.2.2.2.2.2.2.2.2.2.2.2.2.2.2.2.2.2.2.2 ((0 : Int32)).toNatClampNeg x5))) := hD
      refine lv_iinc (v := (x3 + (1 : Int32))) (lv' := [(3, .int (x3 + (1 : Int32))), (0, .ref (aM 0)), (2, .int x2), (5, .int x5), (6, .int x6)]) hx hb dX6_readMap_211 hl (k := 2) rfl (by rfl) (by decide) rfl (fun ls hl => ?_)
      refine lv_goto (tgt := 126) hx hb dX6_readMap_214 (by decide) ?_
      exact hrec126 _ _ _ _ h _ _ _ hP hD hS (lv_sub hl [1, 2, 0] rfl)
    · replace h := xi_f c9 h
      refine lv_aload_n hx hb dX6_readMap_173 rfl (lv_at hl 0 rfl) ?_
      refine va_get (D := D) (ci := 6) (v := .ref (aM 11)) (C := RX6) (T := TX6) (N := 21) hx hb hts xu_X6 hown hK hP 0 rfl rfl 20 (by decide) (hts _ xw_527) (fun _ h9 => h9) rfl dX6_readMap_174 ?_
      refine lv_iload hx hb dX6_readMap_177 (lv_at hl 4 rfl) ?_
      refine lv_aload_n hx hb dX6_readMap_179 rfl (lv_at hl 0 rfl) ?_
      refine va_get (D := D) (ci := 6) (v := .ref (aM 11)) (C := RX6) (T := TX6) (N := 21) hx hb hts xu_X6 hown hK hP 0 rfl rfl 20 (by decide) (hts _ xw_527) (fun _ h9 => h9) rfl dX6_readMap_180 ?_
      refine lv_iload hx hb dX6_readMap_183 (lv_at hl 4 rfl) ?_
      refine lv_iconst (v := (1 : Int32)) hx hb dX6_readMap_185 (by decide) ?_
      refine lv_isub hx hb dX6_readMap_186 ?_
      obtain ⟨hi9, h⟩ := xi_g h
      refine va_iald hx hb hK hP 11 0 rfl rfl hi9 dX6_readMap_187 ?_
      obtain ⟨hi9, h⟩ := xi_g h
      refine va_iast hx hb hK hP hD hS 11 0 rfl rfl hi9 dX6_readMap_188 (fun H locs hP hD hS => ?_)
      have hP : va_P D vwCl (w6 aM K (M.1, M.2.1, M.2.2.1, M.2.2.2.1, M.2.2.2.2.1, M.2.2.2.2.2.1, M.2.2.2.2.2.2.1, M.2.2.2.2.2.2.2.1, M.2.2.2.2.2.2.2.2.1, M.2.2.2.2.2.2.2.2.2.1, M.2.2.2.2.2.2.2.2.2.2.1, M.2.2.2.2.2.2.2.2.2.2.2.1, M.2.2.2.2.2.2.2.2.2.2.2.2.1, M.2.2.2.2.2.2.2.2.2.2.2.2.2.1, M.2.2.2.2.2.2.2.2.2.2.2.2.2.2.1, M.2.2.2.2.2.2.2.2.2.2.2.2.2.2.2.1, M.2.2.2.2.2.2.2.2.2.2.2.2.2.2.2.2.1, M.2.2.2.2.2.2.2.2.2.2.2.2.2.2.2.2.2.1, M.2.2.2.2.2.2.2.2.2.2.2.2.2.2.2.2.2.2.1, M.2.2.2.2.2.2.2.2.2.2.2.2.2.2.2.2.2.2.2.1, (upd M.2.2.2.2.2.2.2.2.2.2.2.2.2.2.2.2.2.2.2.2 (x6).toNatClampNeg (M.2.2.2.2.2.2.2.2.2.2.2.2.2.2.2.2.2.2.2.2 ((x6 - (1 : Int32))).toNatClampNeg)))) H := hP
      have hD : va_D A (w6 aM K (M.1, M.2.1, M.2.2.1, M.2.2.2.1, M.2.2.2.2.1, M.2.2.2.2.2.1, M.2.2.2.2.2.2.1, M.2.2.2.2.2.2.2.1, M.2.2.2.2.2.2.2.2.1, M.2.2.2.2.2.2.2.2.2.1, M.2.2.2.2.2.2.2.2.2.2.1, M.2.2.2.2.2.2.2.2.2.2.2.1, M.2.2.2.2.2.2.2.2.2.2.2.2.1, M.2.2.2.2.2.2.2.2.2.2.2.2.2.1, M.2.2.2.2.2.2.2.2.2.2.2.2.2.2.1, M.2.2.2.2.2.2.2.2.2.2.2.2.2.2.2.1, M.2.2.2.2.2.2.2.2.2.2.2.2.2.2.2.2.1, M.2.2.2.2.2.2.2.2.2.2.2.2.2.2.2.2.2.1, M.2.2.2.2.2.2.2.2.2.2.2.2.2.2.2.2.2.2.1, M.2.2.2.2.2.2.2.2.2.2.2.2.2.2.2.2.2.2.2.1, (upd M.2.2.2.2.2.2.2.2.2.2.2.2.2.2.2.2.2.2.2.2 (x6).toNatClampNeg (M.2.2.2.2.2.2.2.2.2.2.2.2.2.2.2.2.2.2.2.2 ((x6 - (1 : Int32))).toNatClampNeg)))) := hD
      refine lv_iinc (v := (x6 + (-1 : Int32))) (lv' := [(6, .int (x6 + (-1 : Int32))), (0, .ref (aM 0)), (2, .int x2), (3, .int x3), (5, .int x5)]) hx hb dX6_readMap_189 hl (k := 4) rfl (by rfl) (by decide) rfl (fun ls hl => ?_)
      refine lv_goto (tgt := 168) hx hb dX6_readMap_192 (by decide) ?_
      exact ih _ _ _ _ _ _ h _ _ _ hP hD hS (lv_sub hl [1, 2, 3, 4, 0] rfl)
set_option maxHeartbeats 4000000 in
set_option maxRecDepth 100000 in
theorem kX6_readMap_126 {p : Program} {l : Launch} {e : Env} {s : State} {m : MethodId} {args : Array Value} {below : List Frame} {meth : Method} {c : Code} {D : va_G} {K : Nat → ClassId} {A : Nat → Prop} {aM : Nat → Nat} (C : xC p s m args meth c cX6_readMap 7 none yX6_readMap D K A []) : ∀ fu : Nat, ∀ (M : S6) (x2 : Int32) (x3 : Int32) (r : Unit × (S6)), fX6_readMap_126 fu M x2 x3 = some r → ∀ (H : Heap) (locs : List Loc) (ls : Array Slot), va_P D vwCl (w6 aM K M) H → va_D A (w6 aM K M) → va_S A s.heap H locs → lv_has ls 7 [(0, .ref (aM 0)), (2, .int x2), (3, .int x3)] → W p l e (xR 1 23 (oX6_readMap aM K r)) s m args below meth c H locs 0 0 (xQ below args s D K A (oX6_readMap aM K r)) (F0 m 126 ls []) := by
  obtain ⟨hx, hb, hr, hml, hown, hK, hts, hA, hG, hlk, hte, hnm⟩ := id C
  intro fu
  induction fu with
  | zero =>
    intro M x2 x3 r h
    exact nomatch (show (none : Option (Unit × (S6))) = some r from h)
  | succ fu ih =>
    intro M x2 x3 r h H locs ls hP hD hS hl
    replace h : (if ((4 : Int32) * M.2.2.2.2.2.2.2.2.2.2.2.2.2.2.1) ≤ x3 then some ((), M) else (if x2 = 0 then some ((), M) else (if M.2.2.2.2.1 = 0 then (if x3 < 0 ∨ 12 ≤ (x3).toNatClampNeg then none else (if (M.2.2.2.2.2.2.2.2.2.2.2.2.2.2.2.2.2.2.2.1 (x3).toNatClampNeg) < 0 ∨ 4 ≤ ((M.2.2.2.2.2.2.2.2.2.2.2.2.2.2.2.2.2.2.2.1 (x3).toNatClampNeg)).toNatClampNeg then none else fX6_readMap_168 (fX6_readMap_126 fu) xF M x2 x3 (M.2.2.2.2.2.2.2.2.2.2.2.2.2.2.2.2.2.2.2.2 ((M.2.2.2.2.2.2.2.2.2.2.2.2.2.2.2.2.2.2.2.1 (x3).toNatClampNeg)).toNatClampNeg) (M.2.2.2.2.2.2.2.2.2.2.2.2.2.2.2.2.2.2.2.1 (x3).toNatClampNeg))) else some ((), M)))) = some r := h
    refine lv_iload_n hx hb dX6_readMap_126 rfl (lv_at hl 2 rfl) ?_
    refine lv_iconst (v := (4 : Int32)) hx hb dX6_readMap_127 (by decide) ?_
    refine lv_aload_n hx hb dX6_readMap_128 rfl (lv_at hl 0 rfl) ?_
    refine va_get (D := D) (ci := 6) (v := .int M.2.2.2.2.2.2.2.2.2.2.2.2.2.2.1) (C := RX6) (T := TX6) (N := 21) hx hb hts xu_X6 hown hK hP 0 rfl rfl 14 (by decide) (hts _ xw_521) (fun _ h9 => h9) rfl dX6_readMap_129 ?_
    refine lv_imul hx hb dX6_readMap_132 ?_
    refine lv_icmp_ge (tgt := 217) hx hb dX6_readMap_133 (by decide) (fun c9 => ?_) (fun c9 => ?_)
    · replace h := xi_t c9 h
      obtain rfl := Option.some.inj h
      exact xe_v C hP hD hS dX6_readMap_217
    · replace h := xi_f c9 h
      refine lv_iload_n hx hb dX6_readMap_136 rfl (lv_at hl 1 rfl) ?_
      refine lv_if_eq (tgt := 217) hx hb dX6_readMap_137 (by decide) (fun c9 => ?_) (fun c9 => ?_)
      · replace h := xi_t c9 h
        obtain rfl := Option.some.inj h
        exact xe_v C hP hD hS dX6_readMap_217
      · replace h := xi_f c9 h
        refine lv_aload_n hx hb dX6_readMap_140 rfl (lv_at hl 0 rfl) ?_
        refine va_get (D := D) (ci := 6) (v := .int M.2.2.2.2.1) (C := RX6) (T := TX6) (N := 21) hx hb hts xu_X6 hown hK hP 0 rfl rfl 4 (by decide) (hts _ xw_511) (fun _ h9 => h9) rfl dX6_readMap_141 ?_
        refine lv_if_ne (tgt := 217) hx hb dX6_readMap_144 (by decide) (fun c9 => ?_) (fun c9 => ?_)
        · replace h := xi_f c9 h
          obtain rfl := Option.some.inj h
          exact xe_v C hP hD hS dX6_readMap_217
        · replace h := xi_t c9 h
          refine lv_aload_n hx hb dX6_readMap_147 rfl (lv_at hl 0 rfl) ?_
          refine va_get (D := D) (ci := 6) (v := .ref (aM 10)) (C := RX6) (T := TX6) (N := 21) hx hb hts xu_X6 hown hK hP 0 rfl rfl 19 (by decide) (hts _ xw_526) (fun _ h9 => h9) rfl dX6_readMap_148 ?_
          refine lv_iload_n hx hb dX6_readMap_151 rfl (lv_at hl 2 rfl) ?_
          obtain ⟨hi9, h⟩ := xi_g h
          refine va_iald hx hb hK hP 10 0 rfl rfl hi9 dX6_readMap_152 ?_
          refine lv_istore (lv' := [(4, .int (M.2.2.2.2.2.2.2.2.2.2.2.2.2.2.2.2.2.2.2.1 (x3).toNatClampNeg)), (0, .ref (aM 0)), (2, .int x2), (3, .int x3)]) hx hb dX6_readMap_153 hl (by decide) rfl (fun ls hl => ?_)
          refine lv_aload_n hx hb dX6_readMap_155 rfl (lv_at hl 1 rfl) ?_
          refine va_get (D := D) (ci := 6) (v := .ref (aM 11)) (C := RX6) (T := TX6) (N := 21) hx hb hts xu_X6 hown hK hP 0 rfl rfl 20 (by decide) (hts _ xw_527) (fun _ h9 => h9) rfl dX6_readMap_156 ?_
          refine lv_iload hx hb dX6_readMap_159 (lv_at hl 0 rfl) ?_
          obtain ⟨hi9, h⟩ := xi_g h
          refine va_iald hx hb hK hP 11 0 rfl rfl hi9 dX6_readMap_161 ?_
          refine lv_istore (lv' := [(5, .int (M.2.2.2.2.2.2.2.2.2.2.2.2.2.2.2.2.2.2.2.2 ((M.2.2.2.2.2.2.2.2.2.2.2.2.2.2.2.2.2.2.2.1 (x3).toNatClampNeg)).toNatClampNeg)), (4, .int (M.2.2.2.2.2.2.2.2.2.2.2.2.2.2.2.2.2.2.2.1 (x3).toNatClampNeg)), (0, .ref (aM 0)), (2, .int x2), (3, .int x3)]) hx hb dX6_readMap_162 hl (by decide) rfl (fun ls hl => ?_)
          refine lv_iload hx hb dX6_readMap_164 (lv_at hl 1 rfl) ?_
          refine lv_istore (lv' := [(6, .int (M.2.2.2.2.2.2.2.2.2.2.2.2.2.2.2.2.2.2.2.1 (x3).toNatClampNeg)), (5, .int (M.2.2.2.2.2.2.2.2.2.2.2.2.2.2.2.2.2.2.2.2 ((M.2.2.2.2.2.2.2.2.2.2.2.2.2.2.2.2.2.2.2.1 (x3).toNatClampNeg)).toNatClampNeg)), (4, .int (M.2.2.2.2.2.2.2.2.2.2.2.2.2.2.2.2.2.2.2.1 (x3).toNatClampNeg)), (0, .ref (aM 0)), (2, .int x2), (3, .int x3)]) hx hb dX6_readMap_166 hl (by decide) rfl (fun ls hl => ?_)
          exact kX6_readMap_168 C _ ih _ _ _ _ _ _ _ h _ _ _ hP hD hS (lv_sub hl [3, 4, 5, 1, 0] rfl)
set_option maxHeartbeats 4000000 in
set_option maxRecDepth 100000 in
theorem kX6_readMap_106 {p : Program} {l : Launch} {e : Env} {s : State} {m : MethodId} {args : Array Value} {below : List Frame} {meth : Method} {c : Code} {D : va_G} {K : Nat → ClassId} {A : Nat → Prop} {aM : Nat → Nat} (C : xC p s m args meth c cX6_readMap 7 none yX6_readMap D K A []) : ∀ fu : Nat, ∀ (M : S6) (x2 : Int32) (x3 : Int32) (r : Unit × (S6)), fX6_readMap_106 fu M x2 x3 = some r → ∀ (H : Heap) (locs : List Loc) (ls : Array Slot), va_P D vwCl (w6 aM K M) H → va_D A (w6 aM K M) → va_S A s.heap H locs → lv_has ls 7 [(0, .ref (aM 0)), (2, .int x2), (3, .int x3)] → W p l e (xR 1 23 (oX6_readMap aM K r)) s m args below meth c H locs 0 0 (xQ below args s D K A (oX6_readMap aM K r)) (F0 m 106 ls []) := by
  obtain ⟨hx, hb, hr, hml, hown, hK, hts, hA, hG, hlk, hte, hnm⟩ := id C
  intro fu
  induction fu with
  | zero =>
    intro M x2 x3 r h
    exact nomatch (show (none : Option (Unit × (S6))) = some r from h)
  | succ fu ih =>
    intro M x2 x3 r h H locs ls hP hD hS hl
    replace h : (if (4 : Int32) ≤ x3 then fX6_readMap_126 xF M x2 (0 : Int32) else (if x3 < 0 ∨ 4 ≤ (x3).toNatClampNeg then none else fX6_readMap_106 fu (M.1, M.2.1, M.2.2.1, M.2.2.2.1, M.2.2.2.2.1, M.2.2.2.2.2.1, M.2.2.2.2.2.2.1, M.2.2.2.2.2.2.2.1, M.2.2.2.2.2.2.2.2.1, M.2.2.2.2.2.2.2.2.2.1, M.2.2.2.2.2.2.2.2.2.2.1, M.2.2.2.2.2.2.2.2.2.2.2.1, M.2.2.2.2.2.2.2.2.2.2.2.2.1, M.2.2.2.2.2.2.2.2.2.2.2.2.2.1, M.2.2.2.2.2.2.2.2.2.2.2.2.2.2.1, M.2.2.2.2.2.2.2.2.2.2.2.2.2.2.2.1, M.2.2.2.2.2.2.2.2.2.2.2.2.2.2.2.2.1, M.2.2.2.2.2.2.2.2.2.2.2.2.2.2.2.2.2.1, M.2.2.2.2.2.2.2.2.2.2.2.2.2.2.2.2.2.2.1, M.2.2.2.2.2.2.2.2.2.2.2.2.2.2.2.2.2.2.2.1, (upd M.2.2.2.2.2.2.2.2.2.2.2.2.2.2.2.2.2.2.2.2 (x3).toNatClampNeg x3)) x2 (x3 + (1 : Int32)))) = some r := h
    refine lv_iload_n hx hb dX6_readMap_106 rfl (lv_at hl 2 rfl) ?_
    refine lv_iconst (v := (4 : Int32)) hx hb dX6_readMap_107 (by decide) ?_
    refine lv_icmp_ge (tgt := 124) hx hb dX6_readMap_108 (by decide) (fun c9 => ?_) (fun c9 => ?_)
    · replace h := xi_t c9 h
      refine lv_iconst (v := (0 : Int32)) hx hb dX6_readMap_124 (by decide) ?_
      refine lv_istore_n (lv' := [(3, .int (0 : Int32)), (0, .ref (aM 0)), (2, .int x2)]) hx hb dX6_readMap_125 rfl hl (by decide) rfl (fun ls hl => ?_)
      exact kX6_readMap_126 C _ _ _ _ _ h _ _ _ hP hD hS (lv_sub hl [1, 2, 0] rfl)
    · replace h := xi_f c9 h
      refine lv_aload_n hx hb dX6_readMap_111 rfl (lv_at hl 0 rfl) ?_
      refine va_get (D := D) (ci := 6) (v := .ref (aM 11)) (C := RX6) (T := TX6) (N := 21) hx hb hts xu_X6 hown hK hP 0 rfl rfl 20 (by decide) (hts _ xw_527) (fun _ h9 => h9) rfl dX6_readMap_112 ?_
      refine lv_iload_n hx hb dX6_readMap_115 rfl (lv_at hl 2 rfl) ?_
      refine lv_iload_n hx hb dX6_readMap_116 rfl (lv_at hl 2 rfl) ?_
      obtain ⟨hi9, h⟩ := xi_g h
      refine va_iast hx hb hK hP hD hS 11 0 rfl rfl hi9 dX6_readMap_117 (fun H locs hP hD hS => ?_)
      have hP : va_P D vwCl (w6 aM K (M.1, M.2.1, M.2.2.1, M.2.2.2.1, M.2.2.2.2.1, M.2.2.2.2.2.1, M.2.2.2.2.2.2.1, M.2.2.2.2.2.2.2.1, M.2.2.2.2.2.2.2.2.1, M.2.2.2.2.2.2.2.2.2.1, M.2.2.2.2.2.2.2.2.2.2.1, M.2.2.2.2.2.2.2.2.2.2.2.1, M.2.2.2.2.2.2.2.2.2.2.2.2.1, M.2.2.2.2.2.2.2.2.2.2.2.2.2.1, M.2.2.2.2.2.2.2.2.2.2.2.2.2.2.1, M.2.2.2.2.2.2.2.2.2.2.2.2.2.2.2.1, M.2.2.2.2.2.2.2.2.2.2.2.2.2.2.2.2.1, M.2.2.2.2.2.2.2.2.2.2.2.2.2.2.2.2.2.1, M.2.2.2.2.2.2.2.2.2.2.2.2.2.2.2.2.2.2.1, M.2.2.2.2.2.2.2.2.2.2.2.2.2.2.2.2.2.2.2.1, (upd M.2.2.2.2.2.2.2.2.2.2.2.2.2.2.2.2.2.2.2.2 (x3).toNatClampNeg x3))) H := hP
      have hD : va_D A (w6 aM K (M.1, M.2.1, M.2.2.1, M.2.2.2.1, M.2.2.2.2.1, M.2.2.2.2.2.1, M.2.2.2.2.2.2.1, M.2.2.2.2.2.2.2.1, M.2.2.2.2.2.2.2.2.1, M.2.2.2.2.2.2.2.2.2.1, M.2.2.2.2.2.2.2.2.2.2.1, M.2.2.2.2.2.2.2.2.2.2.2.1, M.2.2.2.2.2.2.2.2.2.2.2.2.1, M.2.2.2.2.2.2.2.2.2.2.2.2.2.1, M.2.2.2.2.2.2.2.2.2.2.2.2.2.2.1, M.2.2.2.2.2.2.2.2.2.2.2.2.2.2.2.1, M.2.2.2.2.2.2.2.2.2.2.2.2.2.2.2.2.1, M.2.2.2.2.2.2.2.2.2.2.2.2.2.2.2.2.2.1, M.2.2.2.2.2.2.2.2.2.2.2.2.2.2.2.2.2.2.1, M.2.2.2.2.2.2.2.2.2.2.2.2.2.2.2.2.2.2.2.1, (upd M.2.2.2.2.2.2.2.2.2.2.2.2.2.2.2.2.2.2.2.2 (x3).toNatClampNeg x3))) := hD
      refine lv_iinc (v := (x3 + (1 : Int32))) (lv' := [(3, .int (x3 + (1 : Int32))), (0, .ref (aM 0)), (2, .int x2)]) hx hb dX6_readMap_118 hl (k := 2) rfl (by rfl) (by decide) rfl (fun ls hl => ?_)
      refine lv_goto (tgt := 106) hx hb dX6_readMap_121 (by decide) ?_
      exact ih _ _ _ _ h _ _ _ hP hD hS (lv_sub hl [1, 2, 0] rfl)
set_option maxHeartbeats 4000000 in
set_option maxRecDepth 100000 in
theorem kX6_readMap_103 {p : Program} {l : Launch} {e : Env} {s : State} {m : MethodId} {args : Array Value} {below : List Frame} {meth : Method} {c : Code} {D : va_G} {K : Nat → ClassId} {A : Nat → Prop} {aM : Nat → Nat} (C : xC p s m args meth c cX6_readMap 7 none yX6_readMap D K A []) : ∀ (M : S6) (t0 : Int32) (r : Unit × (S6)), fX6_readMap_103  M t0 = some r → ∀ (H : Heap) (locs : List Loc) (ls : Array Slot), va_P D vwCl (w6 aM K M) H → va_D A (w6 aM K M) → va_S A s.heap H locs → lv_has ls 7 [(0, .ref (aM 0))] → W p l e (xR 1 23 (oX6_readMap aM K r)) s m args below meth c H locs 0 0 (xQ below args s D K A (oX6_readMap aM K r)) (F0 m 103 ls [.int t0]) := by
  obtain ⟨hx, hb, hr, hml, hown, hK, hts, hA, hG, hlk, hte, hnm⟩ := id C
  intro M t0 r h H locs ls hP hD hS hl
  replace h : fX6_readMap_106 xF M t0 (0 : Int32) = some r := h
  refine lv_istore_n (lv' := [(2, .int t0), (0, .ref (aM 0))]) hx hb dX6_readMap_103 rfl hl (by decide) rfl (fun ls hl => ?_)
  refine lv_iconst (v := (0 : Int32)) hx hb dX6_readMap_104 (by decide) ?_
  refine lv_istore_n (lv' := [(3, .int (0 : Int32)), (2, .int t0), (0, .ref (aM 0))]) hx hb dX6_readMap_105 rfl hl (by decide) rfl (fun ls hl => ?_)
  exact kX6_readMap_106 C _ _ _ _ _ h _ _ _ hP hD hS (lv_sub hl [2, 1, 0] rfl)
set_option maxHeartbeats 4000000 in
set_option maxRecDepth 100000 in
theorem kX6_readMap_89 {p : Program} {l : Launch} {e : Env} {s : State} {m : MethodId} {args : Array Value} {below : List Frame} {meth : Method} {c : Code} {D : va_G} {K : Nat → ClassId} {A : Nat → Prop} {aM : Nat → Nat} (C : xC p s m args meth c cX6_readMap 7 none yX6_readMap D K A []) : ∀ (M : S6) (r : Unit × (S6)), fX6_readMap_89  M = some r → ∀ (H : Heap) (locs : List Loc) (ls : Array Slot), va_P D vwCl (w6 aM K M) H → va_D A (w6 aM K M) → va_S A s.heap H locs → lv_has ls 7 [(0, .ref (aM 0))] → W p l e (xR 1 23 (oX6_readMap aM K r)) s m args below meth c H locs 0 0 (xQ below args s D K A (oX6_readMap aM K r)) (F0 m 89 ls []) := by
  obtain ⟨hx, hb, hr, hml, hown, hK, hts, hA, hG, hlk, hte, hnm⟩ := id C
  intro M r h H locs ls hP hD hS hl
  replace h : xbnd0 (fX6_number M (1 : Int32)) (fun v_3 s_4 => (if v_3 = (1 : Int32) then fX6_readMap_103 s_4 (1 : Int32) else fX6_readMap_103 s_4 (0 : Int32))) = some r := h
  refine lv_aload_n hx hb dX6_readMap_89 rfl (lv_at hl 0 rfl) ?_
  refine lv_iconst (v := (1 : Int32)) hx hb dX6_readMap_90 (by decide) ?_
  obtain ⟨v_3, s_4, hc9, h⟩ := xi_d h
  refine xc_V (As := [.int (1 : Int32)]) (ws' := w6 aM K s_4) C (mX6_number l D K aM _ _ _ _ hc9) xgi_X6_66 xd_X6_number ⟨Nat.le_of_ble_eq_true rfl, Nat.le_of_ble_eq_true rfl⟩ ⟨Nat.zero_le _, Nat.zero_le _⟩ hl rfl (Nat.le_of_ble_eq_true rfl) dX6_readMap_91 hP hD hS 0 6 rfl rfl rfl [0, 1, 2, 3, 4, 5, 6, 7, 8, 9, 10, 11] rfl rfl [(0, w6 aM K s_4)] rfl rfl rfl (List.forall_mem_cons.mpr ⟨Nat.le_of_ble_eq_true rfl, (fun _ h => absurd h List.not_mem_nil)⟩) (fun H locs hP hD hS => ?_)
  refine W.eq (g2 := F0 m 94 ls [.int v_3]) rfl ?_
  refine lv_iconst (v := (1 : Int32)) hx hb dX6_readMap_94 (by decide) ?_
  refine lv_icmp_ne (tgt := 102) hx hb dX6_readMap_95 (by decide) (fun c9 => ?_) (fun c9 => ?_)
  · replace h := xi_f c9 h
    refine lv_iconst (v := (0 : Int32)) hx hb dX6_readMap_102 (by decide) ?_
    exact kX6_readMap_103 C _ _ _ h _ _ _ hP hD hS (lv_sub hl [0] rfl)
  · replace h := xi_t c9 h
    refine lv_iconst (v := (1 : Int32)) hx hb dX6_readMap_98 (by decide) ?_
    refine lv_goto (tgt := 103) hx hb dX6_readMap_99 (by decide) ?_
    exact kX6_readMap_103 C _ _ _ h _ _ _ hP hD hS (lv_sub hl [0] rfl)
set_option maxHeartbeats 4000000 in
set_option maxRecDepth 100000 in
theorem kX6_readMap_80 {p : Program} {l : Launch} {e : Env} {s : State} {m : MethodId} {args : Array Value} {below : List Frame} {meth : Method} {c : Code} {D : va_G} {K : Nat → ClassId} {A : Nat → Prop} {aM : Nat → Nat} (C : xC p s m args meth c cX6_readMap 7 none yX6_readMap D K A []) (rec29 : S6 → Int32 → Int32 → Option (Unit × (S6))) (hrec29 : ∀ (M : S6) (x1 : Int32) (x2 : Int32) (r : Unit × (S6)), rec29 M x1 x2 = some r → ∀ (H : Heap) (locs : List Loc) (ls : Array Slot), va_P D vwCl (w6 aM K M) H → va_D A (w6 aM K M) → va_S A s.heap H locs → lv_has ls 7 [(0, .ref (aM 0)), (1, .int x1), (2, .int x2)] → W p l e (xR 1 23 (oX6_readMap aM K r)) s m args below meth c H locs 0 0 (xQ below args s D K A (oX6_readMap aM K r)) (F0 m 29 ls [])) : ∀ (M : S6) (x1 : Int32) (x2 : Int32) (t1 : Int32) (r : Unit × (S6)), fX6_readMap_80  rec29 M x1 x2 t1 = some r → ∀ (H : Heap) (locs : List Loc) (ls : Array Slot), va_P D vwCl (w6 aM K M) H → va_D A (w6 aM K M) → va_S A s.heap H locs → lv_has ls 7 [(0, .ref (aM 0)), (1, .int x1), (2, .int x2)] → W p l e (xR 1 23 (oX6_readMap aM K r)) s m args below meth c H locs 0 0 (xQ below args s D K A (oX6_readMap aM K r)) (F0 m 80 ls [.int t1, .ref (aM 0)]) := by
  obtain ⟨hx, hb, hr, hml, hown, hK, hts, hA, hG, hlk, hte, hnm⟩ := id C
  intro M x1 x2 t1 r h H locs ls hP hD hS hl
  replace h : (if t1 = 0 ∨ t1 = 1 then rec29 (M.1, M.2.1, M.2.2.1, M.2.2.2.1, t1, M.2.2.2.2.2.1, M.2.2.2.2.2.2.1, M.2.2.2.2.2.2.2.1, M.2.2.2.2.2.2.2.2.1, M.2.2.2.2.2.2.2.2.2.1, M.2.2.2.2.2.2.2.2.2.2.1, M.2.2.2.2.2.2.2.2.2.2.2.1, M.2.2.2.2.2.2.2.2.2.2.2.2.1, M.2.2.2.2.2.2.2.2.2.2.2.2.2.1, M.2.2.2.2.2.2.2.2.2.2.2.2.2.2.1, M.2.2.2.2.2.2.2.2.2.2.2.2.2.2.2.1, M.2.2.2.2.2.2.2.2.2.2.2.2.2.2.2.2.1, M.2.2.2.2.2.2.2.2.2.2.2.2.2.2.2.2.2.1, M.2.2.2.2.2.2.2.2.2.2.2.2.2.2.2.2.2.2.1, M.2.2.2.2.2.2.2.2.2.2.2.2.2.2.2.2.2.2.2.1, M.2.2.2.2.2.2.2.2.2.2.2.2.2.2.2.2.2.2.2.2) x1 (x2 + (1 : Int32)) else none) = some r := h
  obtain ⟨hz9, h⟩ := xi_b h
  refine va_put (D := D) (ci := 6) (v := .int t1) (ty := .boolean) (C := RX6) (T := TX6) (N := 21) hx hb hts xu_X6 tyX6 tyX6_ok nmX6 hown hK hP hD hS 0 rfl rfl 4 (by decide) (hts _ xw_511) (fun _ h9 => h9) rfl (by decide +kernel) hz9.1 hz9.2 (Nat.le_of_ble_eq_true rfl) dX6_readMap_80 (fun H locs hP hD hS => ?_)
  have hP : va_P D vwCl (w6 aM K (M.1, M.2.1, M.2.2.1, M.2.2.2.1, t1, M.2.2.2.2.2.1, M.2.2.2.2.2.2.1, M.2.2.2.2.2.2.2.1, M.2.2.2.2.2.2.2.2.1, M.2.2.2.2.2.2.2.2.2.1, M.2.2.2.2.2.2.2.2.2.2.1, M.2.2.2.2.2.2.2.2.2.2.2.1, M.2.2.2.2.2.2.2.2.2.2.2.2.1, M.2.2.2.2.2.2.2.2.2.2.2.2.2.1, M.2.2.2.2.2.2.2.2.2.2.2.2.2.2.1, M.2.2.2.2.2.2.2.2.2.2.2.2.2.2.2.1, M.2.2.2.2.2.2.2.2.2.2.2.2.2.2.2.2.1, M.2.2.2.2.2.2.2.2.2.2.2.2.2.2.2.2.2.1, M.2.2.2.2.2.2.2.2.2.2.2.2.2.2.2.2.2.2.1, M.2.2.2.2.2.2.2.2.2.2.2.2.2.2.2.2.2.2.2.1, M.2.2.2.2.2.2.2.2.2.2.2.2.2.2.2.2.2.2.2.2)) H := hP
  have hD : va_D A (w6 aM K (M.1, M.2.1, M.2.2.1, M.2.2.2.1, t1, M.2.2.2.2.2.1, M.2.2.2.2.2.2.1, M.2.2.2.2.2.2.2.1, M.2.2.2.2.2.2.2.2.1, M.2.2.2.2.2.2.2.2.2.1, M.2.2.2.2.2.2.2.2.2.2.1, M.2.2.2.2.2.2.2.2.2.2.2.1, M.2.2.2.2.2.2.2.2.2.2.2.2.1, M.2.2.2.2.2.2.2.2.2.2.2.2.2.1, M.2.2.2.2.2.2.2.2.2.2.2.2.2.2.1, M.2.2.2.2.2.2.2.2.2.2.2.2.2.2.2.1, M.2.2.2.2.2.2.2.2.2.2.2.2.2.2.2.2.1, M.2.2.2.2.2.2.2.2.2.2.2.2.2.2.2.2.2.1, M.2.2.2.2.2.2.2.2.2.2.2.2.2.2.2.2.2.2.1, M.2.2.2.2.2.2.2.2.2.2.2.2.2.2.2.2.2.2.2.1, M.2.2.2.2.2.2.2.2.2.2.2.2.2.2.2.2.2.2.2.2)) := hD
  refine lv_iinc (v := (x2 + (1 : Int32))) (lv' := [(2, .int (x2 + (1 : Int32))), (0, .ref (aM 0)), (1, .int x1)]) hx hb dX6_readMap_83 hl (k := 2) rfl (by rfl) (by decide) rfl (fun ls hl => ?_)
  refine lv_goto (tgt := 29) hx hb dX6_readMap_86 (by decide) ?_
  exact hrec29 _ _ _ _ h _ _ _ hP hD hS (lv_sub hl [1, 2, 0] rfl)
set_option maxHeartbeats 4000000 in
set_option maxRecDepth 100000 in
theorem kX6_readMap_29 {p : Program} {l : Launch} {e : Env} {s : State} {m : MethodId} {args : Array Value} {below : List Frame} {meth : Method} {c : Code} {D : va_G} {K : Nat → ClassId} {A : Nat → Prop} {aM : Nat → Nat} (C : xC p s m args meth c cX6_readMap 7 none yX6_readMap D K A []) : ∀ fu : Nat, ∀ (M : S6) (x1 : Int32) (x2 : Int32) (r : Unit × (S6)), fX6_readMap_29 fu M x1 x2 = some r → ∀ (H : Heap) (locs : List Loc) (ls : Array Slot), va_P D vwCl (w6 aM K M) H → va_D A (w6 aM K M) → va_S A s.heap H locs → lv_has ls 7 [(0, .ref (aM 0)), (1, .int x1), (2, .int x2)] → W p l e (xR 1 23 (oX6_readMap aM K r)) s m args below meth c H locs 0 0 (xQ below args s D K A (oX6_readMap aM K r)) (F0 m 29 ls []) := by
  obtain ⟨hx, hb, hr, hml, hown, hK, hts, hA, hG, hlk, hte, hnm⟩ := id C
  intro fu
  induction fu with
  | zero =>
    intro M x1 x2 r h
    exact nomatch (show (none : Option (Unit × (S6))) = some r from h)
  | succ fu ih =>
    intro M x1 x2 r h H locs ls hP hD hS hl
    replace h : (if ((4 : Int32) * M.2.2.2.2.2.2.2.2.2.2.2.2.2.2.1) ≤ x2 then fX6_readMap_89 M else (if M.2.2.2.2.1 = 0 then xbnd0 (fX6_number M (2 : Int32)) (fun v_1 s_2 => (if x2 < 0 ∨ 12 ≤ (x2).toNatClampNeg then none else (if s_2.2.2.2.2.1 = 0 then (if x2 < 0 ∨ 12 ≤ (x2).toNatClampNeg then none else (if ((upd s_2.2.2.2.2.2.2.2.2.2.2.2.2.2.2.2.2.2.2.2.1 (x2).toNatClampNeg v_1) (x2).toNatClampNeg) < x1 then fX6_readMap_80 (fX6_readMap_29 fu) (s_2.1, s_2.2.1, s_2.2.2.1, s_2.2.2.2.1, s_2.2.2.2.2.1, s_2.2.2.2.2.2.1, s_2.2.2.2.2.2.2.1, s_2.2.2.2.2.2.2.2.1, s_2.2.2.2.2.2.2.2.2.1, s_2.2.2.2.2.2.2.2.2.2.1, s_2.2.2.2.2.2.2.2.2.2.2.1, s_2.2.2.2.2.2.2.2.2.2.2.2.1, s_2.2.2.2.2.2.2.2.2.2.2.2.2.1, s_2.2.2.2.2.2.2.2.2.2.2.2.2.2.1, s_2.2.2.2.2.2.2.2.2.2.2.2.2.2.2.1, s_2.2.2.2.2.2.2.2.2.2.2.2.2.2.2.2.1, s_2.2.2.2.2.2.2.2.2.2.2.2.2.2.2.2.2.1, s_2.2.2.2.2.2.2.2.2.2.2.2.2.2.2.2.2.2.1, s_2.2.2.2.2.2.2.2.2.2.2.2.2.2.2.2.2.2.2.1, (upd s_2.2.2.2.2.2.2.2.2.2.2.2.2.2.2.2.2.2.2.2.1 (x2).toNatClampNeg v_1), s_2.2.2.2.2.2.2.2.2.2.2.2.2.2.2.2.2.2.2.2.2) x1 x2 (0 : Int32) else fX6_readMap_80 (fX6_readMap_29 fu) (s_2.1, s_2.2.1, s_2.2.2.1, s_2.2.2.2.1, s_2.2.2.2.2.1, s_2.2.2.2.2.2.1, s_2.2.2.2.2.2.2.1, s_2.2.2.2.2.2.2.2.1, s_2.2.2.2.2.2.2.2.2.1, s_2.2.2.2.2.2.2.2.2.2.1, s_2.2.2.2.2.2.2.2.2.2.2.1, s_2.2.2.2.2.2.2.2.2.2.2.2.1, s_2.2.2.2.2.2.2.2.2.2.2.2.2.1, s_2.2.2.2.2.2.2.2.2.2.2.2.2.2.1, s_2.2.2.2.2.2.2.2.2.2.2.2.2.2.2.1, s_2.2.2.2.2.2.2.2.2.2.2.2.2.2.2.2.1, s_2.2.2.2.2.2.2.2.2.2.2.2.2.2.2.2.2.1, s_2.2.2.2.2.2.2.2.2.2.2.2.2.2.2.2.2.2.1, s_2.2.2.2.2.2.2.2.2.2.2.2.2.2.2.2.2.2.2.1, (upd s_2.2.2.2.2.2.2.2.2.2.2.2.2.2.2.2.2.2.2.2.1 (x2).toNatClampNeg v_1), s_2.2.2.2.2.2.2.2.2.2.2.2.2.2.2.2.2.2.2.2.2) x1 x2 (1 : Int32))) else fX6_readMap_80 (fX6_readMap_29 fu) (s_2.1, s_2.2.1, s_2.2.2.1, s_2.2.2.2.1, s_2.2.2.2.2.1, s_2.2.2.2.2.2.1, s_2.2.2.2.2.2.2.1, s_2.2.2.2.2.2.2.2.1, s_2.2.2.2.2.2.2.2.2.1, s_2.2.2.2.2.2.2.2.2.2.1, s_2.2.2.2.2.2.2.2.2.2.2.1, s_2.2.2.2.2.2.2.2.2.2.2.2.1, s_2.2.2.2.2.2.2.2.2.2.2.2.2.1, s_2.2.2.2.2.2.2.2.2.2.2.2.2.2.1, s_2.2.2.2.2.2.2.2.2.2.2.2.2.2.2.1, s_2.2.2.2.2.2.2.2.2.2.2.2.2.2.2.2.1, s_2.2.2.2.2.2.2.2.2.2.2.2.2.2.2.2.2.1, s_2.2.2.2.2.2.2.2.2.2.2.2.2.2.2.2.2.2.1, s_2.2.2.2.2.2.2.2.2.2.2.2.2.2.2.2.2.2.2.1, (upd s_2.2.2.2.2.2.2.2.2.2.2.2.2.2.2.2.2.2.2.2.1 (x2).toNatClampNeg v_1), s_2.2.2.2.2.2.2.2.2.2.2.2.2.2.2.2.2.2.2.2.2) x1 x2 (1 : Int32)))) else fX6_readMap_89 M)) = some r := h
    refine lv_iload_n hx hb dX6_readMap_29 rfl (lv_at hl 2 rfl) ?_
    refine lv_iconst (v := (4 : Int32)) hx hb dX6_readMap_30 (by decide) ?_
    refine lv_aload_n hx hb dX6_readMap_31 rfl (lv_at hl 0 rfl) ?_
    refine va_get (D := D) (ci := 6) (v := .int M.2.2.2.2.2.2.2.2.2.2.2.2.2.2.1) (C := RX6) (T := TX6) (N := 21) hx hb hts xu_X6 hown hK hP 0 rfl rfl 14 (by decide) (hts _ xw_521) (fun _ h9 => h9) rfl dX6_readMap_32 ?_
    refine lv_imul hx hb dX6_readMap_35 ?_
    refine lv_icmp_ge (tgt := 89) hx hb dX6_readMap_36 (by decide) (fun c9 => ?_) (fun c9 => ?_)
    · replace h := xi_t c9 h
      exact kX6_readMap_89 C _ _ h _ _ _ hP hD hS (lv_sub hl [0] rfl)
    · replace h := xi_f c9 h
      refine lv_aload_n hx hb dX6_readMap_39 rfl (lv_at hl 0 rfl) ?_
      refine va_get (D := D) (ci := 6) (v := .int M.2.2.2.2.1) (C := RX6) (T := TX6) (N := 21) hx hb hts xu_X6 hown hK hP 0 rfl rfl 4 (by decide) (hts _ xw_511) (fun _ h9 => h9) rfl dX6_readMap_40 ?_
      refine lv_if_ne (tgt := 89) hx hb dX6_readMap_43 (by decide) (fun c9 => ?_) (fun c9 => ?_)
      · replace h := xi_f c9 h
        exact kX6_readMap_89 C _ _ h _ _ _ hP hD hS (lv_sub hl [0] rfl)
      · replace h := xi_t c9 h
        refine lv_aload_n hx hb dX6_readMap_46 rfl (lv_at hl 0 rfl) ?_
        refine va_get (D := D) (ci := 6) (v := .ref (aM 10)) (C := RX6) (T := TX6) (N := 21) hx hb hts xu_X6 hown hK hP 0 rfl rfl 19 (by decide) (hts _ xw_526) (fun _ h9 => h9) rfl dX6_readMap_47 ?_
        refine lv_iload_n hx hb dX6_readMap_50 rfl (lv_at hl 2 rfl) ?_
        refine lv_aload_n hx hb dX6_readMap_51 rfl (lv_at hl 0 rfl) ?_
        refine lv_iconst (v := (2 : Int32)) hx hb dX6_readMap_52 (by decide) ?_
        obtain ⟨v_1, s_2, hc9, h⟩ := xi_d h
        refine xc_V (As := [.int (2 : Int32)]) (ws' := w6 aM K s_2) C (mX6_number l D K aM _ _ _ _ hc9) xgi_X6_66 xd_X6_number ⟨Nat.le_of_ble_eq_true rfl, Nat.le_of_ble_eq_true rfl⟩ ⟨Nat.zero_le _, Nat.zero_le _⟩ hl rfl (Nat.le_of_ble_eq_true rfl) dX6_readMap_53 hP hD hS 0 6 rfl rfl rfl [0, 1, 2, 3, 4, 5, 6, 7, 8, 9, 10, 11] rfl rfl [(0, w6 aM K s_2)] rfl rfl rfl (List.forall_mem_cons.mpr ⟨Nat.le_of_ble_eq_true rfl, (fun _ h => absurd h List.not_mem_nil)⟩) (fun H locs hP hD hS => ?_)
        refine W.eq (g2 := F0 m 56 ls [.int v_1, .int x2, .ref (aM 10)]) rfl ?_
        obtain ⟨hi9, h⟩ := xi_g h
        refine va_iast hx hb hK hP hD hS 10 0 rfl rfl hi9 dX6_readMap_56 (fun H locs hP hD hS => ?_)
        have hP : va_P D vwCl (w6 aM K (s_2.1, s_2.2.1, s_2.2.2.1, s_2.2.2.2.1, s_2.2.2.2.2.1, s_2.2.2.2.2.2.1, s_2.2.2.2.2.2.2.1, s_2.2.2.2.2.2.2.2.1, s_2.2.2.2.2.2.2.2.2.1, s_2.2.2.2.2.2.2.2.2.2.1, s_2.2.2.2.2.2.2.2.2.2.2.1, s_2.2.2.2.2.2.2.2.2.2.2.2.1, s_2.2.2.2.2.2.2.2.2.2.2.2.2.1, s_2.2.2.2.2.2.2.2.2.2.2.2.2.2.1, s_2.2.2.2.2.2.2.2.2.2.2.2.2.2.2.1, s_2.2.2.2.2.2.2.2.2.2.2.2.2.2.2.2.1, s_2.2.2.2.2.2.2.2.2.2.2.2.2.2.2.2.2.1, s_2.2.2.2.2.2.2.2.2.2.2.2.2.2.2.2.2.2.1, s_2.2.2.2.2.2.2.2.2.2.2.2.2.2.2.2.2.2.2.1, (upd s_2.2.2.2.2.2.2.2.2.2.2.2.2.2.2.2.2.2.2.2.1 (x2).toNatClampNeg v_1), s_2.2.2.2.2.2.2.2.2.2.2.2.2.2.2.2.2.2.2.2.2)) H := hP
        have hD : va_D A (w6 aM K (s_2.1, s_2.2.1, s_2.2.2.1, s_2.2.2.2.1, s_2.2.2.2.2.1, s_2.2.2.2.2.2.1, s_2.2.2.2.2.2.2.1, s_2.2.2.2.2.2.2.2.1, s_2.2.2.2.2.2.2.2.2.1, s_2.2.2.2.2.2.2.2.2.2.1, s_2.2.2.2.2.2.2.2.2.2.2.1, s_2.2.2.2.2.2.2.2.2.2.2.2.1, s_2.2.2.2.2.2.2.2.2.2.2.2.2.1, s_2.2.2.2.2.2.2.2.2.2.2.2.2.2.1, s_2.2.2.2.2.2.2.2.2.2.2.2.2.2.2.1, s_2.2.2.2.2.2.2.2.2.2.2.2.2.2.2.2.1, s_2.2.2.2.2.2.2.2.2.2.2.2.2.2.2.2.2.1, s_2.2.2.2.2.2.2.2.2.2.2.2.2.2.2.2.2.2.1, s_2.2.2.2.2.2.2.2.2.2.2.2.2.2.2.2.2.2.2.1, (upd s_2.2.2.2.2.2.2.2.2.2.2.2.2.2.2.2.2.2.2.2.1 (x2).toNatClampNeg v_1), s_2.2.2.2.2.2.2.2.2.2.2.2.2.2.2.2.2.2.2.2.2)) := hD
        refine lv_aload_n hx hb dX6_readMap_57 rfl (lv_at hl 0 rfl) ?_
        refine lv_aload_n hx hb dX6_readMap_58 rfl (lv_at hl 0 rfl) ?_
        refine va_get (D := D) (ci := 6) (v := .int s_2.2.2.2.2.1) (C := RX6) (T := TX6) (N := 21) hx hb hts xu_X6 hown hK hP 0 rfl rfl 4 (by decide) (hts _ xw_511) (fun _ h9 => h9) rfl dX6_readMap_59 ?_
        refine lv_if_ne (tgt := 75) hx hb dX6_readMap_62 (by decide) (fun c9 => ?_) (fun c9 => ?_)
        · replace h := xi_f c9 h
          refine lv_iconst (v := (1 : Int32)) hx hb dX6_readMap_75 (by decide) ?_
          refine lv_goto (tgt := 80) hx hb dX6_readMap_76 (by decide) ?_
          exact kX6_readMap_80 C _ ih _ _ _ _ _ h _ _ _ hP hD hS (lv_sub hl [0, 1, 2] rfl)
        · replace h := xi_t c9 h
          refine lv_aload_n hx hb dX6_readMap_65 rfl (lv_at hl 0 rfl) ?_
          refine va_get (D := D) (ci := 6) (v := .ref (aM 10)) (C := RX6) (T := TX6) (N := 21) hx hb hts xu_X6 hown hK hP 0 rfl rfl 19 (by decide) (hts _ xw_526) (fun _ h9 => h9) rfl dX6_readMap_66 ?_
          refine lv_iload_n hx hb dX6_readMap_69 rfl (lv_at hl 2 rfl) ?_
          obtain ⟨hi9, h⟩ := xi_g h
          refine va_iald hx hb hK hP 10 0 rfl rfl hi9 dX6_readMap_70 ?_
          refine lv_iload_n hx hb dX6_readMap_71 rfl (lv_at hl 1 rfl) ?_
          refine lv_icmp_lt (tgt := 79) hx hb dX6_readMap_72 (by decide) (fun c9 => ?_) (fun c9 => ?_)
          · replace h := xi_t c9 h
            refine lv_iconst (v := (0 : Int32)) hx hb dX6_readMap_79 (by decide) ?_
            exact kX6_readMap_80 C _ ih _ _ _ _ _ h _ _ _ hP hD hS (lv_sub hl [0, 1, 2] rfl)
          · replace h := xi_f c9 h
            refine lv_iconst (v := (1 : Int32)) hx hb dX6_readMap_75 (by decide) ?_
            refine lv_goto (tgt := 80) hx hb dX6_readMap_76 (by decide) ?_
            exact kX6_readMap_80 C _ ih _ _ _ _ _ h _ _ _ hP hD hS (lv_sub hl [0, 1, 2] rfl)
set_option maxHeartbeats 4000000 in
set_option maxRecDepth 100000 in
theorem kX6_readMap_2 {p : Program} {l : Launch} {e : Env} {s : State} {m : MethodId} {args : Array Value} {below : List Frame} {meth : Method} {c : Code} {D : va_G} {K : Nat → ClassId} {A : Nat → Prop} {aM : Nat → Nat} (C : xC p s m args meth c cX6_readMap 7 none yX6_readMap D K A []) : ∀ fu : Nat, ∀ (M : S6) (x1 : Int32) (x2 : Int32) (r : Unit × (S6)), fX6_readMap_2 fu M x1 x2 = some r → ∀ (H : Heap) (locs : List Loc) (ls : Array Slot), va_P D vwCl (w6 aM K M) H → va_D A (w6 aM K M) → va_S A s.heap H locs → lv_has ls 7 [(0, .ref (aM 0)), (1, .int x1), (2, .int x2)] → W p l e (xR 1 23 (oX6_readMap aM K r)) s m args below meth c H locs 0 0 (xQ below args s D K A (oX6_readMap aM K r)) (F0 m 2 ls []) := by
  obtain ⟨hx, hb, hr, hml, hown, hK, hts, hA, hG, hlk, hte, hnm⟩ := id C
  intro fu
  induction fu with
  | zero =>
    intro M x1 x2 r h
    exact nomatch (show (none : Option (Unit × (S6))) = some r from h)
  | succ fu ih =>
    intro M x1 x2 r h H locs ls hP hD hS hl
    replace h : (if (12 : Int32) ≤ x2 then (if x1 = (1 : Int32) then some ((), M) else fX6_readMap_29 xF M x1 (0 : Int32)) else (if x2 < 0 ∨ 12 ≤ (x2).toNatClampNeg then none else fX6_readMap_2 fu (M.1, M.2.1, M.2.2.1, M.2.2.2.1, M.2.2.2.2.1, M.2.2.2.2.2.1, M.2.2.2.2.2.2.1, M.2.2.2.2.2.2.2.1, M.2.2.2.2.2.2.2.2.1, M.2.2.2.2.2.2.2.2.2.1, M.2.2.2.2.2.2.2.2.2.2.1, M.2.2.2.2.2.2.2.2.2.2.2.1, M.2.2.2.2.2.2.2.2.2.2.2.2.1, M.2.2.2.2.2.2.2.2.2.2.2.2.2.1, M.2.2.2.2.2.2.2.2.2.2.2.2.2.2.1, M.2.2.2.2.2.2.2.2.2.2.2.2.2.2.2.1, M.2.2.2.2.2.2.2.2.2.2.2.2.2.2.2.2.1, M.2.2.2.2.2.2.2.2.2.2.2.2.2.2.2.2.2.1, M.2.2.2.2.2.2.2.2.2.2.2.2.2.2.2.2.2.2.1, (upd M.2.2.2.2.2.2.2.2.2.2.2.2.2.2.2.2.2.2.2.1 (x2).toNatClampNeg (0 : Int32)), M.2.2.2.2.2.2.2.2.2.2.2.2.2.2.2.2.2.2.2.2) x1 (x2 + (1 : Int32)))) = some r := h
    refine lv_iload_n hx hb dX6_readMap_2 rfl (lv_at hl 2 rfl) ?_
    refine lv_bipush (v := (12 : Int32)) hx hb dX6_readMap_3 (by decide) ?_
    refine lv_icmp_ge (tgt := 21) hx hb dX6_readMap_5 (by decide) (fun c9 => ?_) (fun c9 => ?_)
    · replace h := xi_t c9 h
      refine lv_iload_n hx hb dX6_readMap_21 rfl (lv_at hl 1 rfl) ?_
      refine lv_iconst (v := (1 : Int32)) hx hb dX6_readMap_22 (by decide) ?_
      refine lv_icmp_ne (tgt := 27) hx hb dX6_readMap_23 (by decide) (fun c9 => ?_) (fun c9 => ?_)
      · replace h := xi_f c9 h
        refine lv_iconst (v := (0 : Int32)) hx hb dX6_readMap_27 (by decide) ?_
        refine lv_istore_n (lv' := [(2, .int (0 : Int32)), (0, .ref (aM 0)), (1, .int x1)]) hx hb dX6_readMap_28 rfl hl (by decide) rfl (fun ls hl => ?_)
        exact kX6_readMap_29 C _ _ _ _ _ h _ _ _ hP hD hS (lv_sub hl [1, 2, 0] rfl)
      · replace h := xi_t c9 h
        obtain rfl := Option.some.inj h
        exact xe_v C hP hD hS dX6_readMap_26
    · replace h := xi_f c9 h
      refine lv_aload_n hx hb dX6_readMap_8 rfl (lv_at hl 0 rfl) ?_
      refine va_get (D := D) (ci := 6) (v := .ref (aM 10)) (C := RX6) (T := TX6) (N := 21) hx hb hts xu_X6 hown hK hP 0 rfl rfl 19 (by decide) (hts _ xw_526) (fun _ h9 => h9) rfl dX6_readMap_9 ?_
      refine lv_iload_n hx hb dX6_readMap_12 rfl (lv_at hl 2 rfl) ?_
      refine lv_iconst (v := (0 : Int32)) hx hb dX6_readMap_13 (by decide) ?_
      obtain ⟨hi9, h⟩ := xi_g h
      refine va_iast hx hb hK hP hD hS 10 0 rfl rfl hi9 dX6_readMap_14 (fun H locs hP hD hS => ?_)
      have hP : va_P D vwCl (w6 aM K (M.1, M.2.1, M.2.2.1, M.2.2.2.1, M.2.2.2.2.1, M.2.2.2.2.2.1, M.2.2.2.2.2.2.1, M.2.2.2.2.2.2.2.1, M.2.2.2.2.2.2.2.2.1, M.2.2.2.2.2.2.2.2.2.1, M.2.2.2.2.2.2.2.2.2.2.1, M.2.2.2.2.2.2.2.2.2.2.2.1, M.2.2.2.2.2.2.2.2.2.2.2.2.1, M.2.2.2.2.2.2.2.2.2.2.2.2.2.1, M.2.2.2.2.2.2.2.2.2.2.2.2.2.2.1, M.2.2.2.2.2.2.2.2.2.2.2.2.2.2.2.1, M.2.2.2.2.2.2.2.2.2.2.2.2.2.2.2.2.1, M.2.2.2.2.2.2.2.2.2.2.2.2.2.2.2.2.2.1, M.2.2.2.2.2.2.2.2.2.2.2.2.2.2.2.2.2.2.1, (upd M.2.2.2.2.2.2.2.2.2.2.2.2.2.2.2.2.2.2.2.1 (x2).toNatClampNeg (0 : Int32)), M.2.2.2.2.2.2.2.2.2.2.2.2.2.2.2.2.2.2.2.2)) H := hP
      have hD : va_D A (w6 aM K (M.1, M.2.1, M.2.2.1, M.2.2.2.1, M.2.2.2.2.1, M.2.2.2.2.2.1, M.2.2.2.2.2.2.1, M.2.2.2.2.2.2.2.1, M.2.2.2.2.2.2.2.2.1, M.2.2.2.2.2.2.2.2.2.1, M.2.2.2.2.2.2.2.2.2.2.1, M.2.2.2.2.2.2.2.2.2.2.2.1, M.2.2.2.2.2.2.2.2.2.2.2.2.1, M.2.2.2.2.2.2.2.2.2.2.2.2.2.1, M.2.2.2.2.2.2.2.2.2.2.2.2.2.2.1, M.2.2.2.2.2.2.2.2.2.2.2.2.2.2.2.1, M.2.2.2.2.2.2.2.2.2.2.2.2.2.2.2.2.1, M.2.2.2.2.2.2.2.2.2.2.2.2.2.2.2.2.2.1, M.2.2.2.2.2.2.2.2.2.2.2.2.2.2.2.2.2.2.1, (upd M.2.2.2.2.2.2.2.2.2.2.2.2.2.2.2.2.2.2.2.1 (x2).toNatClampNeg (0 : Int32)), M.2.2.2.2.2.2.2.2.2.2.2.2.2.2.2.2.2.2.2.2)) := hD
      refine lv_iinc (v := (x2 + (1 : Int32))) (lv' := [(2, .int (x2 + (1 : Int32))), (0, .ref (aM 0)), (1, .int x1)]) hx hb dX6_readMap_15 hl (k := 2) rfl (by rfl) (by decide) rfl (fun ls hl => ?_)
      refine lv_goto (tgt := 2) hx hb dX6_readMap_18 (by decide) ?_
      exact ih _ _ _ _ h _ _ _ hP hD hS (lv_sub hl [1, 2, 0] rfl)
set_option maxHeartbeats 4000000 in
set_option maxRecDepth 100000 in
theorem mX6_readMap (l : Launch) (D : va_G) (K : Nat → ClassId) (aM : Nat → Nat) (sz : Nat) (M : S6) (p1 : Int32) (r : Unit × (S6)) (h : fX6_readMap M p1 = some r) : xMet l yX6_readMap cX6_readMap 7 none 1 23 D K [.ref (aM 0), .int p1] sz (w6 aM K M) (oX6_readMap aM K r) := by
  refine xm_of _ (by decide +kernel) (Nat.le_of_ble_eq_true rfl) (fun p e s m args below meth c A C hP hD ls hl => ?_)
  have hl : lv_has ls 7 [(0, .ref (aM 0)), (1, .int p1)] := hl
  have hS : va_S A s.heap s.heap [] := va_S.rf
  obtain ⟨hx, hb, hr, hml, hown, hK, hts, hA, hG, hlk, hte, hnm⟩ := id C
  replace h : fX6_readMap_2 xF M p1 (0 : Int32) = some r := h
  refine lv_iconst (v := (0 : Int32)) hx hb dX6_readMap_0 (by decide) ?_
  refine lv_istore_n (lv' := [(2, .int (0 : Int32)), (0, .ref (aM 0)), (1, .int p1)]) hx hb dX6_readMap_1 rfl hl (by decide) rfl (fun ls hl => ?_)
  exact kX6_readMap_2 C _ _ _ _ _ h _ _ _ hP hD hS (lv_sub hl [1, 2, 0] rfl)
abbrev oX6_readHead (aM : Nat → Nat) (K : Nat → ClassId) (q : Unit × (S6)) : xO := .inr (none, w6 aM K q.2)
def fX6_readHead_172 (M : S6) : Option (Unit × (S6)) := (if M.2.2.2.2.1 = 0 then xbnd0 (fX6_readCode M (5 : Int32) (12 : Int32)) (fun v_17 s_18 => some ((), s_18)) else some ((), M))
def fX6_readHead_158 (M : S6) : Option (Unit × (S6)) := (if M.2.2.2.2.1 = 0 then xbnd0 (fX6_readCode M (4 : Int32) (16 : Int32)) (fun v_15 s_16 => fX6_readHead_172 s_16) else fX6_readHead_172 M)
def fX6_readHead_133 : Nat → S6 → Int32 → Int32 → Option (Unit × (S6))
  | 0 => fun _ _ _ => none
  | fu + 1 => fun M x1 x2 => (if x1 ≤ x2 then fX6_readHead_158 M else (if M.2.2.2.2.1 = 0 then xbnd0 (fX6_readCode M x2 (32 : Int32)) (fun v_13 s_14 => fX6_readHead_133 fu s_14 x1 (x2 + (1 : Int32))) else fX6_readHead_158 M))
def fX6_readHead_131 (M : S6) (x1 : Int32) : Option (Unit × (S6)) := fX6_readHead_133 xF M x1 (0 : Int32)
def fX6_readHead_86 : Nat → S6 → Int32 → Option (Unit × (S6))
  | 0 => fun _ _ => none
  | fu + 1 => fun M x1 => (if M.2.2.2.2.2.2.2.2.2.2.2.2.2.2.1 ≤ x1 then xbnd0 (fX6_number M (2 : Int32)) (fun v_7 s_8 => (if s_8.2.2.2.2.1 = 0 then xbnd0 (fX6_readMap s_8 (v_7 + (1 : Int32))) (fun v_9 s_10 => fX6_readHead_131 s_10 (v_7 + (1 : Int32))) else fX6_readHead_131 s_8 (v_7 + (1 : Int32)))) else xbnd0 (fX6_number M (2 : Int32)) (fun v_11 s_12 => (if x1 < 0 ∨ 3 ≤ (x1).toNatClampNeg then none else fX6_readHead_86 fu (s_12.1, s_12.2.1, s_12.2.2.1, s_12.2.2.2.1, s_12.2.2.2.2.1, s_12.2.2.2.2.2.1, s_12.2.2.2.2.2.2.1, s_12.2.2.2.2.2.2.2.1, s_12.2.2.2.2.2.2.2.2.1, s_12.2.2.2.2.2.2.2.2.2.1, s_12.2.2.2.2.2.2.2.2.2.2.1, s_12.2.2.2.2.2.2.2.2.2.2.2.1, s_12.2.2.2.2.2.2.2.2.2.2.2.2.1, s_12.2.2.2.2.2.2.2.2.2.2.2.2.2.1, s_12.2.2.2.2.2.2.2.2.2.2.2.2.2.2.1, s_12.2.2.2.2.2.2.2.2.2.2.2.2.2.2.2.1, s_12.2.2.2.2.2.2.2.2.2.2.2.2.2.2.2.2.1, s_12.2.2.2.2.2.2.2.2.2.2.2.2.2.2.2.2.2.1, (upd s_12.2.2.2.2.2.2.2.2.2.2.2.2.2.2.2.2.2.2.1 (x1).toNatClampNeg v_11), s_12.2.2.2.2.2.2.2.2.2.2.2.2.2.2.2.2.2.2.2.1, s_12.2.2.2.2.2.2.2.2.2.2.2.2.2.2.2.2.2.2.2.2) (x1 + (1 : Int32)))))
def fX6_readHead_84 (M : S6) : Option (Unit × (S6)) := fX6_readHead_86 xF M (0 : Int32)
def fX6_readHead_32 (M : S6) (t1 : Int32) : Option (Unit × (S6)) := (if t1 = 0 ∨ t1 = 1 then (if t1 = 0 then (if M.2.2.2.2.2.2.2.2.2.2.2.2.2.2.1 ≤ (1 : Int32) then fX6_readHead_84 (M.1, M.2.1, M.2.2.1, M.2.2.2.1, t1, M.2.2.2.2.2.1, M.2.2.2.2.2.2.1, M.2.2.2.2.2.2.2.1, M.2.2.2.2.2.2.2.2.1, M.2.2.2.2.2.2.2.2.2.1, M.2.2.2.2.2.2.2.2.2.2.1, M.2.2.2.2.2.2.2.2.2.2.2.1, M.2.2.2.2.2.2.2.2.2.2.2.2.1, M.2.2.2.2.2.2.2.2.2.2.2.2.2.1, M.2.2.2.2.2.2.2.2.2.2.2.2.2.2.1, (0 : Int32), (1 : Int32), M.2.2.2.2.2.2.2.2.2.2.2.2.2.2.2.2.2.1, M.2.2.2.2.2.2.2.2.2.2.2.2.2.2.2.2.2.2.1, M.2.2.2.2.2.2.2.2.2.2.2.2.2.2.2.2.2.2.2.1, M.2.2.2.2.2.2.2.2.2.2.2.2.2.2.2.2.2.2.2.2) else xbnd0 (fX6_readCode (M.1, M.2.1, M.2.2.1, M.2.2.2.1, t1, M.2.2.2.2.2.1, M.2.2.2.2.2.2.1, M.2.2.2.2.2.2.2.1, M.2.2.2.2.2.2.2.2.1, M.2.2.2.2.2.2.2.2.2.1, M.2.2.2.2.2.2.2.2.2.2.1, M.2.2.2.2.2.2.2.2.2.2.2.1, M.2.2.2.2.2.2.2.2.2.2.2.2.1, M.2.2.2.2.2.2.2.2.2.2.2.2.2.1, M.2.2.2.2.2.2.2.2.2.2.2.2.2.2.1, (0 : Int32), (1 : Int32), M.2.2.2.2.2.2.2.2.2.2.2.2.2.2.2.2.2.1, M.2.2.2.2.2.2.2.2.2.2.2.2.2.2.2.2.2.2.1, M.2.2.2.2.2.2.2.2.2.2.2.2.2.2.2.2.2.2.2.1, M.2.2.2.2.2.2.2.2.2.2.2.2.2.2.2.2.2.2.2.2) (6 : Int32) (M.2.2.2.2.2.2.2.2.2.2.2.2.2.2.1 + (2 : Int32))) (fun v_3 s_4 => xbnd0 (fX6_number s_4 (5 : Int32)) (fun v_5 s_6 => fX6_readHead_84 (s_6.1, s_6.2.1, s_6.2.2.1, s_6.2.2.2.1, s_6.2.2.2.2.1, s_6.2.2.2.2.2.1, s_6.2.2.2.2.2.2.1, s_6.2.2.2.2.2.2.2.1, s_6.2.2.2.2.2.2.2.2.1, s_6.2.2.2.2.2.2.2.2.2.1, s_6.2.2.2.2.2.2.2.2.2.2.1, s_6.2.2.2.2.2.2.2.2.2.2.2.1, s_6.2.2.2.2.2.2.2.2.2.2.2.2.1, s_6.2.2.2.2.2.2.2.2.2.2.2.2.2.1, s_6.2.2.2.2.2.2.2.2.2.2.2.2.2.2.1, s_6.2.2.2.2.2.2.2.2.2.2.2.2.2.2.2.1, s_6.2.2.2.2.2.2.2.2.2.2.2.2.2.2.2.2.1, (v_5 + (1 : Int32)), s_6.2.2.2.2.2.2.2.2.2.2.2.2.2.2.2.2.2.2.1, s_6.2.2.2.2.2.2.2.2.2.2.2.2.2.2.2.2.2.2.2.1, s_6.2.2.2.2.2.2.2.2.2.2.2.2.2.2.2.2.2.2.2.2)))) else some ((), (M.1, M.2.1, M.2.2.1, M.2.2.2.1, t1, M.2.2.2.2.2.1, M.2.2.2.2.2.2.1, M.2.2.2.2.2.2.2.1, M.2.2.2.2.2.2.2.2.1, M.2.2.2.2.2.2.2.2.2.1, M.2.2.2.2.2.2.2.2.2.2.1, M.2.2.2.2.2.2.2.2.2.2.2.1, M.2.2.2.2.2.2.2.2.2.2.2.2.1, M.2.2.2.2.2.2.2.2.2.2.2.2.2.1, M.2.2.2.2.2.2.2.2.2.2.2.2.2.2.1, M.2.2.2.2.2.2.2.2.2.2.2.2.2.2.2.1, M.2.2.2.2.2.2.2.2.2.2.2.2.2.2.2.2.1, M.2.2.2.2.2.2.2.2.2.2.2.2.2.2.2.2.2.1, M.2.2.2.2.2.2.2.2.2.2.2.2.2.2.2.2.2.2.1, M.2.2.2.2.2.2.2.2.2.2.2.2.2.2.2.2.2.2.2.1, M.2.2.2.2.2.2.2.2.2.2.2.2.2.2.2.2.2.2.2.2))) else none)
def fX6_readHead (M : S6) : Option (Unit × (S6)) := xbnd0 (fX6_number M (2 : Int32)) (fun v_1 s_2 => (if s_2.2.2.2.2.1 = 0 then (if (v_1 + (1 : Int32)) ≤ (3 : Int32) then fX6_readHead_32 (s_2.1, s_2.2.1, s_2.2.2.1, s_2.2.2.2.1, s_2.2.2.2.2.1, s_2.2.2.2.2.2.1, s_2.2.2.2.2.2.2.1, s_2.2.2.2.2.2.2.2.1, s_2.2.2.2.2.2.2.2.2.1, s_2.2.2.2.2.2.2.2.2.2.1, s_2.2.2.2.2.2.2.2.2.2.2.1, s_2.2.2.2.2.2.2.2.2.2.2.2.1, s_2.2.2.2.2.2.2.2.2.2.2.2.2.1, s_2.2.2.2.2.2.2.2.2.2.2.2.2.2.1, (v_1 + (1 : Int32)), s_2.2.2.2.2.2.2.2.2.2.2.2.2.2.2.2.1, s_2.2.2.2.2.2.2.2.2.2.2.2.2.2.2.2.2.1, s_2.2.2.2.2.2.2.2.2.2.2.2.2.2.2.2.2.2.1, s_2.2.2.2.2.2.2.2.2.2.2.2.2.2.2.2.2.2.2.1, s_2.2.2.2.2.2.2.2.2.2.2.2.2.2.2.2.2.2.2.2.1, s_2.2.2.2.2.2.2.2.2.2.2.2.2.2.2.2.2.2.2.2.2) (0 : Int32) else fX6_readHead_32 (s_2.1, s_2.2.1, s_2.2.2.1, s_2.2.2.2.1, s_2.2.2.2.2.1, s_2.2.2.2.2.2.1, s_2.2.2.2.2.2.2.1, s_2.2.2.2.2.2.2.2.1, s_2.2.2.2.2.2.2.2.2.1, s_2.2.2.2.2.2.2.2.2.2.1, s_2.2.2.2.2.2.2.2.2.2.2.1, s_2.2.2.2.2.2.2.2.2.2.2.2.1, s_2.2.2.2.2.2.2.2.2.2.2.2.2.1, s_2.2.2.2.2.2.2.2.2.2.2.2.2.2.1, (v_1 + (1 : Int32)), s_2.2.2.2.2.2.2.2.2.2.2.2.2.2.2.2.1, s_2.2.2.2.2.2.2.2.2.2.2.2.2.2.2.2.2.1, s_2.2.2.2.2.2.2.2.2.2.2.2.2.2.2.2.2.2.1, s_2.2.2.2.2.2.2.2.2.2.2.2.2.2.2.2.2.2.2.1, s_2.2.2.2.2.2.2.2.2.2.2.2.2.2.2.2.2.2.2.2.1, s_2.2.2.2.2.2.2.2.2.2.2.2.2.2.2.2.2.2.2.2.2) (1 : Int32)) else fX6_readHead_32 (s_2.1, s_2.2.1, s_2.2.2.1, s_2.2.2.2.1, s_2.2.2.2.2.1, s_2.2.2.2.2.2.1, s_2.2.2.2.2.2.2.1, s_2.2.2.2.2.2.2.2.1, s_2.2.2.2.2.2.2.2.2.1, s_2.2.2.2.2.2.2.2.2.2.1, s_2.2.2.2.2.2.2.2.2.2.2.1, s_2.2.2.2.2.2.2.2.2.2.2.2.1, s_2.2.2.2.2.2.2.2.2.2.2.2.2.1, s_2.2.2.2.2.2.2.2.2.2.2.2.2.2.1, (v_1 + (1 : Int32)), s_2.2.2.2.2.2.2.2.2.2.2.2.2.2.2.2.1, s_2.2.2.2.2.2.2.2.2.2.2.2.2.2.2.2.2.1, s_2.2.2.2.2.2.2.2.2.2.2.2.2.2.2.2.2.2.1, s_2.2.2.2.2.2.2.2.2.2.2.2.2.2.2.2.2.2.2.1, s_2.2.2.2.2.2.2.2.2.2.2.2.2.2.2.2.2.2.2.2.1, s_2.2.2.2.2.2.2.2.2.2.2.2.2.2.2.2.2.2.2.2.2) (1 : Int32)))
set_option maxHeartbeats 4000000 in
set_option maxRecDepth 100000 in
theorem kX6_readHead_172 {p : Program} {l : Launch} {e : Env} {s : State} {m : MethodId} {args : Array Value} {below : List Frame} {meth : Method} {c : Code} {D : va_G} {K : Nat → ClassId} {A : Nat → Prop} {aM : Nat → Nat} (C : xC p s m args meth c cX6_readHead 3 none yX6_readHead D K A []) : ∀ (M : S6) (r : Unit × (S6)), fX6_readHead_172  M = some r → ∀ (H : Heap) (locs : List Loc) (ls : Array Slot), va_P D vwCl (w6 aM K M) H → va_D A (w6 aM K M) → va_S A s.heap H locs → lv_has ls 3 [(0, .ref (aM 0))] → W p l e (xR 3 74 (oX6_readHead aM K r)) s m args below meth c H locs 0 0 (xQ below args s D K A (oX6_readHead aM K r)) (F0 m 172 ls []) := by
  obtain ⟨hx, hb, hr, hml, hown, hK, hts, hA, hG, hlk, hte, hnm⟩ := id C
  intro M r h H locs ls hP hD hS hl
  replace h : (if M.2.2.2.2.1 = 0 then xbnd0 (fX6_readCode M (5 : Int32) (12 : Int32)) (fun v_17 s_18 => some ((), s_18)) else some ((), M)) = some r := h
  refine lv_aload_n hx hb dX6_readHead_172 rfl (lv_at hl 0 rfl) ?_
  refine va_get (D := D) (ci := 6) (v := .int M.2.2.2.2.1) (C := RX6) (T := TX6) (N := 21) hx hb hts xu_X6 hown hK hP 0 rfl rfl 4 (by decide) (hts _ xw_511) (fun _ h9 => h9) rfl dX6_readHead_173 ?_
  refine lv_if_ne (tgt := 186) hx hb dX6_readHead_176 (by decide) (fun c9 => ?_) (fun c9 => ?_)
  · replace h := xi_f c9 h
    obtain rfl := Option.some.inj h
    exact xe_v C hP hD hS dX6_readHead_186
  · replace h := xi_t c9 h
    refine lv_aload_n hx hb dX6_readHead_179 rfl (lv_at hl 0 rfl) ?_
    refine lv_iconst (v := (5 : Int32)) hx hb dX6_readHead_180 (by decide) ?_
    refine lv_bipush (v := (12 : Int32)) hx hb dX6_readHead_181 (by decide) ?_
    obtain ⟨v_17, s_18, hc9, h⟩ := xi_d h
    refine xc_V (As := [.int (5 : Int32), .int (12 : Int32)]) (ws' := w6 aM K s_18) C (mX6_readCode l D K aM _ _ _ _ _ hc9) xgi_X6_97 xd_X6_readCode ⟨Nat.le_of_ble_eq_true rfl, Nat.le_of_ble_eq_true rfl⟩ ⟨Nat.zero_le _, Nat.zero_le _⟩ hl rfl (Nat.le_of_ble_eq_true rfl) dX6_readHead_183 hP hD hS 0 6 rfl rfl rfl [0, 1, 2, 3, 4, 5, 6, 7, 8, 9, 10, 11] rfl rfl [(0, w6 aM K s_18)] rfl rfl rfl (List.forall_mem_cons.mpr ⟨Nat.le_of_ble_eq_true rfl, (fun _ h => absurd h List.not_mem_nil)⟩) (fun H locs hP hD hS => ?_)
    refine W.eq (g2 := F0 m 186 ls []) rfl ?_
    obtain rfl := Option.some.inj h
    exact xe_v C hP hD hS dX6_readHead_186
set_option maxHeartbeats 4000000 in
set_option maxRecDepth 100000 in
theorem kX6_readHead_158 {p : Program} {l : Launch} {e : Env} {s : State} {m : MethodId} {args : Array Value} {below : List Frame} {meth : Method} {c : Code} {D : va_G} {K : Nat → ClassId} {A : Nat → Prop} {aM : Nat → Nat} (C : xC p s m args meth c cX6_readHead 3 none yX6_readHead D K A []) : ∀ (M : S6) (r : Unit × (S6)), fX6_readHead_158  M = some r → ∀ (H : Heap) (locs : List Loc) (ls : Array Slot), va_P D vwCl (w6 aM K M) H → va_D A (w6 aM K M) → va_S A s.heap H locs → lv_has ls 3 [(0, .ref (aM 0))] → W p l e (xR 3 74 (oX6_readHead aM K r)) s m args below meth c H locs 0 0 (xQ below args s D K A (oX6_readHead aM K r)) (F0 m 158 ls []) := by
  obtain ⟨hx, hb, hr, hml, hown, hK, hts, hA, hG, hlk, hte, hnm⟩ := id C
  intro M r h H locs ls hP hD hS hl
  replace h : (if M.2.2.2.2.1 = 0 then xbnd0 (fX6_readCode M (4 : Int32) (16 : Int32)) (fun v_15 s_16 => fX6_readHead_172 s_16) else fX6_readHead_172 M) = some r := h
  refine lv_aload_n hx hb dX6_readHead_158 rfl (lv_at hl 0 rfl) ?_
  refine va_get (D := D) (ci := 6) (v := .int M.2.2.2.2.1) (C := RX6) (T := TX6) (N := 21) hx hb hts xu_X6 hown hK hP 0 rfl rfl 4 (by decide) (hts _ xw_511) (fun _ h9 => h9) rfl dX6_readHead_159 ?_
  refine lv_if_ne (tgt := 172) hx hb dX6_readHead_162 (by decide) (fun c9 => ?_) (fun c9 => ?_)
  · replace h := xi_f c9 h
    exact kX6_readHead_172 C _ _ h _ _ _ hP hD hS (lv_sub hl [0] rfl)
  · replace h := xi_t c9 h
    refine lv_aload_n hx hb dX6_readHead_165 rfl (lv_at hl 0 rfl) ?_
    refine lv_iconst (v := (4 : Int32)) hx hb dX6_readHead_166 (by decide) ?_
    refine lv_bipush (v := (16 : Int32)) hx hb dX6_readHead_167 (by decide) ?_
    obtain ⟨v_15, s_16, hc9, h⟩ := xi_d h
    refine xc_V (As := [.int (4 : Int32), .int (16 : Int32)]) (ws' := w6 aM K s_16) C (mX6_readCode l D K aM _ _ _ _ _ hc9) xgi_X6_97 xd_X6_readCode ⟨Nat.le_of_ble_eq_true rfl, Nat.le_of_ble_eq_true rfl⟩ ⟨Nat.zero_le _, Nat.zero_le _⟩ hl rfl (Nat.le_of_ble_eq_true rfl) dX6_readHead_169 hP hD hS 0 6 rfl rfl rfl [0, 1, 2, 3, 4, 5, 6, 7, 8, 9, 10, 11] rfl rfl [(0, w6 aM K s_16)] rfl rfl rfl (List.forall_mem_cons.mpr ⟨Nat.le_of_ble_eq_true rfl, (fun _ h => absurd h List.not_mem_nil)⟩) (fun H locs hP hD hS => ?_)
    refine W.eq (g2 := F0 m 172 ls []) rfl ?_
    exact kX6_readHead_172 C _ _ h _ _ _ hP hD hS (lv_sub hl [0] rfl)
set_option maxHeartbeats 4000000 in
set_option maxRecDepth 100000 in
theorem kX6_readHead_133 {p : Program} {l : Launch} {e : Env} {s : State} {m : MethodId} {args : Array Value} {below : List Frame} {meth : Method} {c : Code} {D : va_G} {K : Nat → ClassId} {A : Nat → Prop} {aM : Nat → Nat} (C : xC p s m args meth c cX6_readHead 3 none yX6_readHead D K A []) : ∀ fu : Nat, ∀ (M : S6) (x1 : Int32) (x2 : Int32) (r : Unit × (S6)), fX6_readHead_133 fu M x1 x2 = some r → ∀ (H : Heap) (locs : List Loc) (ls : Array Slot), va_P D vwCl (w6 aM K M) H → va_D A (w6 aM K M) → va_S A s.heap H locs → lv_has ls 3 [(0, .ref (aM 0)), (1, .int x1), (2, .int x2)] → W p l e (xR 3 74 (oX6_readHead aM K r)) s m args below meth c H locs 0 0 (xQ below args s D K A (oX6_readHead aM K r)) (F0 m 133 ls []) := by
  obtain ⟨hx, hb, hr, hml, hown, hK, hts, hA, hG, hlk, hte, hnm⟩ := id C
  intro fu
  induction fu with
  | zero =>
    intro M x1 x2 r h
    exact nomatch (show (none : Option (Unit × (S6))) = some r from h)
  | succ fu ih =>
    intro M x1 x2 r h H locs ls hP hD hS hl
    replace h : (if x1 ≤ x2 then fX6_readHead_158 M else (if M.2.2.2.2.1 = 0 then xbnd0 (fX6_readCode M x2 (32 : Int32)) (fun v_13 s_14 => fX6_readHead_133 fu s_14 x1 (x2 + (1 : Int32))) else fX6_readHead_158 M)) = some r := h
    refine lv_iload_n hx hb dX6_readHead_133 rfl (lv_at hl 2 rfl) ?_
    refine lv_iload_n hx hb dX6_readHead_134 rfl (lv_at hl 1 rfl) ?_
    refine lv_icmp_ge (tgt := 158) hx hb dX6_readHead_135 (by decide) (fun c9 => ?_) (fun c9 => ?_)
    · replace h := xi_t c9 h
      exact kX6_readHead_158 C _ _ h _ _ _ hP hD hS (lv_sub hl [0] rfl)
    · replace h := xi_f c9 h
      refine lv_aload_n hx hb dX6_readHead_138 rfl (lv_at hl 0 rfl) ?_
      refine va_get (D := D) (ci := 6) (v := .int M.2.2.2.2.1) (C := RX6) (T := TX6) (N := 21) hx hb hts xu_X6 hown hK hP 0 rfl rfl 4 (by decide) (hts _ xw_511) (fun _ h9 => h9) rfl dX6_readHead_139 ?_
      refine lv_if_ne (tgt := 158) hx hb dX6_readHead_142 (by decide) (fun c9 => ?_) (fun c9 => ?_)
      · replace h := xi_f c9 h
        exact kX6_readHead_158 C _ _ h _ _ _ hP hD hS (lv_sub hl [0] rfl)
      · replace h := xi_t c9 h
        refine lv_aload_n hx hb dX6_readHead_145 rfl (lv_at hl 0 rfl) ?_
        refine lv_iload_n hx hb dX6_readHead_146 rfl (lv_at hl 2 rfl) ?_
        refine lv_bipush (v := (32 : Int32)) hx hb dX6_readHead_147 (by decide) ?_
        obtain ⟨v_13, s_14, hc9, h⟩ := xi_d h
        refine xc_V (As := [.int x2, .int (32 : Int32)]) (ws' := w6 aM K s_14) C (mX6_readCode l D K aM _ _ _ _ _ hc9) xgi_X6_97 xd_X6_readCode ⟨Nat.le_of_ble_eq_true rfl, Nat.le_of_ble_eq_true rfl⟩ ⟨Nat.zero_le _, Nat.zero_le _⟩ hl rfl (Nat.le_of_ble_eq_true rfl) dX6_readHead_149 hP hD hS 0 6 rfl rfl rfl [0, 1, 2, 3, 4, 5, 6, 7, 8, 9, 10, 11] rfl rfl [(0, w6 aM K s_14)] rfl rfl rfl (List.forall_mem_cons.mpr ⟨Nat.le_of_ble_eq_true rfl, (fun _ h => absurd h List.not_mem_nil)⟩) (fun H locs hP hD hS => ?_)
        refine W.eq (g2 := F0 m 152 ls []) rfl ?_
        refine lv_iinc (v := (x2 + (1 : Int32))) (lv' := [(2, .int (x2 + (1 : Int32))), (0, .ref (aM 0)), (1, .int x1)]) hx hb dX6_readHead_152 hl (k := 2) rfl (by rfl) (by decide) rfl (fun ls hl => ?_)
        refine lv_goto (tgt := 133) hx hb dX6_readHead_155 (by decide) ?_
        exact ih _ _ _ _ h _ _ _ hP hD hS (lv_sub hl [1, 2, 0] rfl)
set_option maxHeartbeats 4000000 in
set_option maxRecDepth 100000 in
theorem kX6_readHead_131 {p : Program} {l : Launch} {e : Env} {s : State} {m : MethodId} {args : Array Value} {below : List Frame} {meth : Method} {c : Code} {D : va_G} {K : Nat → ClassId} {A : Nat → Prop} {aM : Nat → Nat} (C : xC p s m args meth c cX6_readHead 3 none yX6_readHead D K A []) : ∀ (M : S6) (x1 : Int32) (r : Unit × (S6)), fX6_readHead_131  M x1 = some r → ∀ (H : Heap) (locs : List Loc) (ls : Array Slot), va_P D vwCl (w6 aM K M) H → va_D A (w6 aM K M) → va_S A s.heap H locs → lv_has ls 3 [(0, .ref (aM 0)), (1, .int x1)] → W p l e (xR 3 74 (oX6_readHead aM K r)) s m args below meth c H locs 0 0 (xQ below args s D K A (oX6_readHead aM K r)) (F0 m 131 ls []) := by
  obtain ⟨hx, hb, hr, hml, hown, hK, hts, hA, hG, hlk, hte, hnm⟩ := id C
  intro M x1 r h H locs ls hP hD hS hl
  replace h : fX6_readHead_133 xF M x1 (0 : Int32) = some r := h
  refine lv_iconst (v := (0 : Int32)) hx hb dX6_readHead_131 (by decide) ?_
  refine lv_istore_n (lv' := [(2, .int (0 : Int32)), (0, .ref (aM 0)), (1, .int x1)]) hx hb dX6_readHead_132 rfl hl (by decide) rfl (fun ls hl => ?_)
  exact kX6_readHead_133 C _ _ _ _ _ h _ _ _ hP hD hS (lv_sub hl [1, 2, 0] rfl)
set_option maxHeartbeats 4000000 in
set_option maxRecDepth 100000 in
theorem kX6_readHead_86 {p : Program} {l : Launch} {e : Env} {s : State} {m : MethodId} {args : Array Value} {below : List Frame} {meth : Method} {c : Code} {D : va_G} {K : Nat → ClassId} {A : Nat → Prop} {aM : Nat → Nat} (C : xC p s m args meth c cX6_readHead 3 none yX6_readHead D K A []) : ∀ fu : Nat, ∀ (M : S6) (x1 : Int32) (r : Unit × (S6)), fX6_readHead_86 fu M x1 = some r → ∀ (H : Heap) (locs : List Loc) (ls : Array Slot), va_P D vwCl (w6 aM K M) H → va_D A (w6 aM K M) → va_S A s.heap H locs → lv_has ls 3 [(0, .ref (aM 0)), (1, .int x1)] → W p l e (xR 3 74 (oX6_readHead aM K r)) s m args below meth c H locs 0 0 (xQ below args s D K A (oX6_readHead aM K r)) (F0 m 86 ls []) := by
  obtain ⟨hx, hb, hr, hml, hown, hK, hts, hA, hG, hlk, hte, hnm⟩ := id C
  intro fu
  induction fu with
  | zero =>
    intro M x1 r h
    exact nomatch (show (none : Option (Unit × (S6))) = some r from h)
  | succ fu ih =>
    intro M x1 r h H locs ls hP hD hS hl
    replace h : (if M.2.2.2.2.2.2.2.2.2.2.2.2.2.2.1 ≤ x1 then xbnd0 (fX6_number M (2 : Int32)) (fun v_7 s_8 => (if s_8.2.2.2.2.1 = 0 then xbnd0 (fX6_readMap s_8 (v_7 + (1 : Int32))) (fun v_9 s_10 => fX6_readHead_131 s_10 (v_7 + (1 : Int32))) else fX6_readHead_131 s_8 (v_7 + (1 : Int32)))) else xbnd0 (fX6_number M (2 : Int32)) (fun v_11 s_12 => (if x1 < 0 ∨ 3 ≤ (x1).toNatClampNeg then none else fX6_readHead_86 fu (s_12.1, s_12.2.1, s_12.2.2.1, s_12.2.2.2.1, s_12.2.2.2.2.1, s_12.2.2.2.2.2.1, s_12.2.2.2.2.2.2.1, s_12.2.2.2.2.2.2.2.1, s_12.2.2.2.2.2.2.2.2.1, s_12.2.2.2.2.2.2.2.2.2.1, s_12.2.2.2.2.2.2.2.2.2.2.1, s_12.2.2.2.2.2.2.2.2.2.2.2.1, s_12.2.2.2.2.2.2.2.2.2.2.2.2.1, s_12.2.2.2.2.2.2.2.2.2.2.2.2.2.1, s_12.2.2.2.2.2.2.2.2.2.2.2.2.2.2.1, s_12.2.2.2.2.2.2.2.2.2.2.2.2.2.2.2.1, s_12.2.2.2.2.2.2.2.2.2.2.2.2.2.2.2.2.1, s_12.2.2.2.2.2.2.2.2.2.2.2.2.2.2.2.2.2.1, (upd s_12.2.2.2.2.2.2.2.2.2.2.2.2.2.2.2.2.2.2.1 (x1).toNatClampNeg v_11), s_12.2.2.2.2.2.2.2.2.2.2.2.2.2.2.2.2.2.2.2.1, s_12.2.2.2.2.2.2.2.2.2.2.2.2.2.2.2.2.2.2.2.2) (x1 + (1 : Int32))))) = some r := h
    refine lv_iload_n hx hb dX6_readHead_86 rfl (lv_at hl 1 rfl) ?_
    refine lv_aload_n hx hb dX6_readHead_87 rfl (lv_at hl 0 rfl) ?_
    refine va_get (D := D) (ci := 6) (v := .int M.2.2.2.2.2.2.2.2.2.2.2.2.2.2.1) (C := RX6) (T := TX6) (N := 21) hx hb hts xu_X6 hown hK hP 0 rfl rfl 14 (by decide) (hts _ xw_521) (fun _ h9 => h9) rfl dX6_readHead_88 ?_
    refine lv_icmp_ge (tgt := 111) hx hb dX6_readHead_91 (by decide) (fun c9 => ?_) (fun c9 => ?_)
    · replace h := xi_t c9 h
      refine lv_aload_n hx hb dX6_readHead_111 rfl (lv_at hl 0 rfl) ?_
      refine lv_iconst (v := (2 : Int32)) hx hb dX6_readHead_112 (by decide) ?_
      obtain ⟨v_7, s_8, hc9, h⟩ := xi_d h
      refine xc_V (As := [.int (2 : Int32)]) (ws' := w6 aM K s_8) C (mX6_number l D K aM _ _ _ _ hc9) xgi_X6_66 xd_X6_number ⟨Nat.le_of_ble_eq_true rfl, Nat.le_of_ble_eq_true rfl⟩ ⟨Nat.zero_le _, Nat.zero_le _⟩ hl rfl (Nat.le_of_ble_eq_true rfl) dX6_readHead_113 hP hD hS 0 6 rfl rfl rfl [0, 1, 2, 3, 4, 5, 6, 7, 8, 9, 10, 11] rfl rfl [(0, w6 aM K s_8)] rfl rfl rfl (List.forall_mem_cons.mpr ⟨Nat.le_of_ble_eq_true rfl, (fun _ h => absurd h List.not_mem_nil)⟩) (fun H locs hP hD hS => ?_)
      refine W.eq (g2 := F0 m 116 ls [.int v_7]) rfl ?_
      refine lv_iconst (v := (1 : Int32)) hx hb dX6_readHead_116 (by decide) ?_
      refine lv_iadd hx hb dX6_readHead_117 ?_
      refine lv_istore_n (lv' := [(1, .int (v_7 + (1 : Int32))), (0, .ref (aM 0))]) hx hb dX6_readHead_118 rfl hl (by decide) rfl (fun ls hl => ?_)
      refine lv_aload_n hx hb dX6_readHead_119 rfl (lv_at hl 1 rfl) ?_
      refine va_get (D := D) (ci := 6) (v := .int s_8.2.2.2.2.1) (C := RX6) (T := TX6) (N := 21) hx hb hts xu_X6 hown hK hP 0 rfl rfl 4 (by decide) (hts _ xw_511) (fun _ h9 => h9) rfl dX6_readHead_120 ?_
      refine lv_if_ne (tgt := 131) hx hb dX6_readHead_123 (by decide) (fun c9 => ?_) (fun c9 => ?_)
      · replace h := xi_f c9 h
        exact kX6_readHead_131 C _ _ _ h _ _ _ hP hD hS (lv_sub hl [1, 0] rfl)
      · replace h := xi_t c9 h
        refine lv_aload_n hx hb dX6_readHead_126 rfl (lv_at hl 1 rfl) ?_
        refine lv_iload_n hx hb dX6_readHead_127 rfl (lv_at hl 0 rfl) ?_
        obtain ⟨v_9, s_10, hc9, h⟩ := xi_d h
        refine xc_V (As := [.int (v_7 + (1 : Int32))]) (ws' := w6 aM K s_10) C (mX6_readMap l D K aM _ _ _ _ hc9) xgi_X6_103 xd_X6_readMap ⟨Nat.le_of_ble_eq_true rfl, Nat.le_of_ble_eq_true rfl⟩ ⟨Nat.zero_le _, Nat.zero_le _⟩ hl rfl (Nat.le_of_ble_eq_true rfl) dX6_readHead_128 hP hD hS 0 6 rfl rfl rfl [0, 1, 2, 3, 4, 5, 6, 7, 8, 9, 10, 11] rfl rfl [(0, w6 aM K s_10)] rfl rfl rfl (List.forall_mem_cons.mpr ⟨Nat.le_of_ble_eq_true rfl, (fun _ h => absurd h List.not_mem_nil)⟩) (fun H locs hP hD hS => ?_)
        refine W.eq (g2 := F0 m 131 ls []) rfl ?_
        exact kX6_readHead_131 C _ _ _ h _ _ _ hP hD hS (lv_sub hl [1, 0] rfl)
    · replace h := xi_f c9 h
      refine lv_aload_n hx hb dX6_readHead_94 rfl (lv_at hl 0 rfl) ?_
      refine va_get (D := D) (ci := 6) (v := .ref (aM 9)) (C := RX6) (T := TX6) (N := 21) hx hb hts xu_X6 hown hK hP 0 rfl rfl 18 (by decide) (hts _ xw_525) (fun _ h9 => h9) rfl dX6_readHead_95 ?_
      refine lv_iload_n hx hb dX6_readHead_98 rfl (lv_at hl 1 rfl) ?_
      refine lv_aload_n hx hb dX6_readHead_99 rfl (lv_at hl 0 rfl) ?_
      refine lv_iconst (v := (2 : Int32)) hx hb dX6_readHead_100 (by decide) ?_
      obtain ⟨v_11, s_12, hc9, h⟩ := xi_d h
      refine xc_V (As := [.int (2 : Int32)]) (ws' := w6 aM K s_12) C (mX6_number l D K aM _ _ _ _ hc9) xgi_X6_66 xd_X6_number ⟨Nat.le_of_ble_eq_true rfl, Nat.le_of_ble_eq_true rfl⟩ ⟨Nat.zero_le _, Nat.zero_le _⟩ hl rfl (Nat.le_of_ble_eq_true rfl) dX6_readHead_101 hP hD hS 0 6 rfl rfl rfl [0, 1, 2, 3, 4, 5, 6, 7, 8, 9, 10, 11] rfl rfl [(0, w6 aM K s_12)] rfl rfl rfl (List.forall_mem_cons.mpr ⟨Nat.le_of_ble_eq_true rfl, (fun _ h => absurd h List.not_mem_nil)⟩) (fun H locs hP hD hS => ?_)
      refine W.eq (g2 := F0 m 104 ls [.int v_11, .int x1, .ref (aM 9)]) rfl ?_
      obtain ⟨hi9, h⟩ := xi_g h
      refine va_iast hx hb hK hP hD hS 9 0 rfl rfl hi9 dX6_readHead_104 (fun H locs hP hD hS => ?_)
      have hP : va_P D vwCl (w6 aM K (s_12.1, s_12.2.1, s_12.2.2.1, s_12.2.2.2.1, s_12.2.2.2.2.1, s_12.2.2.2.2.2.1, s_12.2.2.2.2.2.2.1, s_12.2.2.2.2.2.2.2.1, s_12.2.2.2.2.2.2.2.2.1, s_12.2.2.2.2.2.2.2.2.2.1, s_12.2.2.2.2.2.2.2.2.2.2.1, s_12.2.2.2.2.2.2.2.2.2.2.2.1, s_12.2.2.2.2.2.2.2.2.2.2.2.2.1, s_12.2.2.2.2.2.2.2.2.2.2.2.2.2.1, s_12.2.2.2.2.2.2.2.2.2.2.2.2.2.2.1, s_12.2.2.2.2.2.2.2.2.2.2.2.2.2.2.2.1, s_12.2.2.2.2.2.2.2.2.2.2.2.2.2.2.2.2.1, s_12.2.2.2.2.2.2.2.2.2.2.2.2.2.2.2.2.2.1, (upd s_12.2.2.2.2.2.2.2.2.2.2.2.2.2.2.2.2.2.2.1 (x1).toNatClampNeg v_11), s_12.2.2.2.2.2.2.2.2.2.2.2.2.2.2.2.2.2.2.2.1, s_12.2.2.2.2.2.2.2.2.2.2.2.2.2.2.2.2.2.2.2.2)) H := hP
      have hD : va_D A (w6 aM K (s_12.1, s_12.2.1, s_12.2.2.1, s_12.2.2.2.1, s_12.2.2.2.2.1, s_12.2.2.2.2.2.1, s_12.2.2.2.2.2.2.1, s_12.2.2.2.2.2.2.2.1, s_12.2.2.2.2.2.2.2.2.1, s_12.2.2.2.2.2.2.2.2.2.1, s_12.2.2.2.2.2.2.2.2.2.2.1, s_12.2.2.2.2.2.2.2.2.2.2.2.1, s_12.2.2.2.2.2.2.2.2.2.2.2.2.1, s_12.2.2.2.2.2.2.2.2.2.2.2.2.2.1, s_12.2.2.2.2.2.2.2.2.2.2.2.2.2.2.1, s_12.2.2.2.2.2.2.2.2.2.2.2.2.2.2.2.1, s_12.2.2.2.2.2.2.2.2.2.2.2.2.2.2.2.2.1, s_12.2.2.2.2.2.2.2.2.2.2.2.2.2.2.2.2.2.1, (upd s_12.2.2.2.2.2.2.2.2.2.2.2.2.2.2.2.2.2.2.1 (x1).toNatClampNeg v_11), s_12.2.2.2.2.2.2.2.2.2.2.2.2.2.2.2.2.2.2.2.1, s_12.2.2.2.2.2.2.2.2.2.2.2.2.2.2.2.2.2.2.2.2)) := hD
      refine lv_iinc (v := (x1 + (1 : Int32))) (lv' := [(1, .int (x1 + (1 : Int32))), (0, .ref (aM 0))]) hx hb dX6_readHead_105 hl (k := 1) rfl (by rfl) (by decide) rfl (fun ls hl => ?_)
      refine lv_goto (tgt := 86) hx hb dX6_readHead_108 (by decide) ?_
      exact ih _ _ _ h _ _ _ hP hD hS (lv_sub hl [1, 0] rfl)
set_option maxHeartbeats 4000000 in
set_option maxRecDepth 100000 in
theorem kX6_readHead_84 {p : Program} {l : Launch} {e : Env} {s : State} {m : MethodId} {args : Array Value} {below : List Frame} {meth : Method} {c : Code} {D : va_G} {K : Nat → ClassId} {A : Nat → Prop} {aM : Nat → Nat} (C : xC p s m args meth c cX6_readHead 3 none yX6_readHead D K A []) : ∀ (M : S6) (r : Unit × (S6)), fX6_readHead_84  M = some r → ∀ (H : Heap) (locs : List Loc) (ls : Array Slot), va_P D vwCl (w6 aM K M) H → va_D A (w6 aM K M) → va_S A s.heap H locs → lv_has ls 3 [(0, .ref (aM 0))] → W p l e (xR 3 74 (oX6_readHead aM K r)) s m args below meth c H locs 0 0 (xQ below args s D K A (oX6_readHead aM K r)) (F0 m 84 ls []) := by
  obtain ⟨hx, hb, hr, hml, hown, hK, hts, hA, hG, hlk, hte, hnm⟩ := id C
  intro M r h H locs ls hP hD hS hl
  replace h : fX6_readHead_86 xF M (0 : Int32) = some r := h
  refine lv_iconst (v := (0 : Int32)) hx hb dX6_readHead_84 (by decide) ?_
  refine lv_istore_n (lv' := [(1, .int (0 : Int32)), (0, .ref (aM 0))]) hx hb dX6_readHead_85 rfl hl (by decide) rfl (fun ls hl => ?_)
  exact kX6_readHead_86 C _ _ _ _ h _ _ _ hP hD hS (lv_sub hl [1, 0] rfl)
set_option maxHeartbeats 4000000 in
set_option maxRecDepth 100000 in
theorem kX6_readHead_32 {p : Program} {l : Launch} {e : Env} {s : State} {m : MethodId} {args : Array Value} {below : List Frame} {meth : Method} {c : Code} {D : va_G} {K : Nat → ClassId} {A : Nat → Prop} {aM : Nat → Nat} (C : xC p s m args meth c cX6_readHead 3 none yX6_readHead D K A []) : ∀ (M : S6) (t1 : Int32) (r : Unit × (S6)), fX6_readHead_32  M t1 = some r → ∀ (H : Heap) (locs : List Loc) (ls : Array Slot), va_P D vwCl (w6 aM K M) H → va_D A (w6 aM K M) → va_S A s.heap H locs → lv_has ls 3 [(0, .ref (aM 0))] → W p l e (xR 3 74 (oX6_readHead aM K r)) s m args below meth c H locs 0 0 (xQ below args s D K A (oX6_readHead aM K r)) (F0 m 32 ls [.int t1, .ref (aM 0)]) := by
  obtain ⟨hx, hb, hr, hml, hown, hK, hts, hA, hG, hlk, hte, hnm⟩ := id C
  intro M t1 r h H locs ls hP hD hS hl
  replace h : (if t1 = 0 ∨ t1 = 1 then (if t1 = 0 then (if M.2.2.2.2.2.2.2.2.2.2.2.2.2.2.1 ≤ (1 : Int32) then fX6_readHead_84 (M.1, M.2.1, M.2.2.1, M.2.2.2.1, t1, M.2.2.2.2.2.1, M.2.2.2.2.2.2.1, M.2.2.2.2.2.2.2.1, M.2.2.2.2.2.2.2.2.1, M.2.2.2.2.2.2.2.2.2.1, M.2.2.2.2.2.2.2.2.2.2.1, M.2.2.2.2.2.2.2.2.2.2.2.1, M.2.2.2.2.2.2.2.2.2.2.2.2.1, M.2.2.2.2.2.2.2.2.2.2.2.2.2.1, M.2.2.2.2.2.2.2.2.2.2.2.2.2.2.1, (0 : Int32), (1 : Int32), M.2.2.2.2.2.2.2.2.2.2.2.2.2.2.2.2.2.1, M.2.2.2.2.2.2.2.2.2.2.2.2.2.2.2.2.2.2.1, M.2.2.2.2.2.2.2.2.2.2.2.2.2.2.2.2.2.2.2.1, M.2.2.2.2.2.2.2.2.2.2.2.2.2.2.2.2.2.2.2.2) else xbnd0 (fX6_readCode (M.1, M.2.1, M.2.2.1, M.2.2.2.1, t1, M.2.2.2.2.2.1, M.2.2.2.2.2.2.1, M.2.2.2.2.2.2.2.1, M.2.2.2.2.2.2.2.2.1, M.2.2.2.2.2.2.2.2.2.1, M.2.2.2.2.2.2.2.2.2.2.1, M.2.2.2.2.2.2.2.2.2.2.2.1, M.2.2.2.2.2.2.2.2.2.2.2.2.1, M.2.2.2.2.2.2.2.2.2.2.2.2.2.1, M.2.2.2.2.2.2.2.2.2.2.2.2.2.2.1, (0 : Int32), (1 : Int32), M.2.2.2.2.2.2.2.2.2.2.2.2.2.2.2.2.2.1, M.2.2.2.2.2.2.2.2.2.2.2.2.2.2.2.2.2.2.1, M.2.2.2.2.2.2.2.2.2.2.2.2.2.2.2.2.2.2.2.1, M.2.2.2.2.2.2.2.2.2.2.2.2.2.2.2.2.2.2.2.2) (6 : Int32) (M.2.2.2.2.2.2.2.2.2.2.2.2.2.2.1 + (2 : Int32))) (fun v_3 s_4 => xbnd0 (fX6_number s_4 (5 : Int32)) (fun v_5 s_6 => fX6_readHead_84 (s_6.1, s_6.2.1, s_6.2.2.1, s_6.2.2.2.1, s_6.2.2.2.2.1, s_6.2.2.2.2.2.1, s_6.2.2.2.2.2.2.1, s_6.2.2.2.2.2.2.2.1, s_6.2.2.2.2.2.2.2.2.1, s_6.2.2.2.2.2.2.2.2.2.1, s_6.2.2.2.2.2.2.2.2.2.2.1, s_6.2.2.2.2.2.2.2.2.2.2.2.1, s_6.2.2.2.2.2.2.2.2.2.2.2.2.1, s_6.2.2.2.2.2.2.2.2.2.2.2.2.2.1, s_6.2.2.2.2.2.2.2.2.2.2.2.2.2.2.1, s_6.2.2.2.2.2.2.2.2.2.2.2.2.2.2.2.1, s_6.2.2.2.2.2.2.2.2.2.2.2.2.2.2.2.2.1, (v_5 + (1 : Int32)), s_6.2.2.2.2.2.2.2.2.2.2.2.2.2.2.2.2.2.2.1, s_6.2.2.2.2.2.2.2.2.2.2.2.2.2.2.2.2.2.2.2.1, s_6.2.2.2.2.2.2.2.2.2.2.2.2.2.2.2.2.2.2.2.2)))) else some ((), (M.1, M.2.1, M.2.2.1, M.2.2.2.1, t1, M.2.2.2.2.2.1, M.2.2.2.2.2.2.1, M.2.2.2.2.2.2.2.1, M.2.2.2.2.2.2.2.2.1, M.2.2.2.2.2.2.2.2.2.1, M.2.2.2.2.2.2.2.2.2.2.1, M.2.2.2.2.2.2.2.2.2.2.2.1, M.2.2.2.2.2.2.2.2.2.2.2.2.1, M.2.2.2.2.2.2.2.2.2.2.2.2.2.1, M.2.2.2.2.2.2.2.2.2.2.2.2.2.2.1, M.2.2.2.2.2.2.2.2.2.2.2.2.2.2.2.1, M.2.2.2.2.2.2.2.2.2.2.2.2.2.2.2.2.1, M.2.2.2.2.2.2.2.2.2.2.2.2.2.2.2.2.2.1, M.2.2.2.2.2.2.2.2.2.2.2.2.2.2.2.2.2.2.1, M.2.2.2.2.2.2.2.2.2.2.2.2.2.2.2.2.2.2.2.1, M.2.2.2.2.2.2.2.2.2.2.2.2.2.2.2.2.2.2.2.2))) else none) = some r := h
  obtain ⟨hz9, h⟩ := xi_b h
  refine va_put (D := D) (ci := 6) (v := .int t1) (ty := .boolean) (C := RX6) (T := TX6) (N := 21) hx hb hts xu_X6 tyX6 tyX6_ok nmX6 hown hK hP hD hS 0 rfl rfl 4 (by decide) (hts _ xw_511) (fun _ h9 => h9) rfl (by decide +kernel) hz9.1 hz9.2 (Nat.le_of_ble_eq_true rfl) dX6_readHead_32 (fun H locs hP hD hS => ?_)
  have hP : va_P D vwCl (w6 aM K (M.1, M.2.1, M.2.2.1, M.2.2.2.1, t1, M.2.2.2.2.2.1, M.2.2.2.2.2.2.1, M.2.2.2.2.2.2.2.1, M.2.2.2.2.2.2.2.2.1, M.2.2.2.2.2.2.2.2.2.1, M.2.2.2.2.2.2.2.2.2.2.1, M.2.2.2.2.2.2.2.2.2.2.2.1, M.2.2.2.2.2.2.2.2.2.2.2.2.1, M.2.2.2.2.2.2.2.2.2.2.2.2.2.1, M.2.2.2.2.2.2.2.2.2.2.2.2.2.2.1, M.2.2.2.2.2.2.2.2.2.2.2.2.2.2.2.1, M.2.2.2.2.2.2.2.2.2.2.2.2.2.2.2.2.1, M.2.2.2.2.2.2.2.2.2.2.2.2.2.2.2.2.2.1, M.2.2.2.2.2.2.2.2.2.2.2.2.2.2.2.2.2.2.1, M.2.2.2.2.2.2.2.2.2.2.2.2.2.2.2.2.2.2.2.1, M.2.2.2.2.2.2.2.2.2.2.2.2.2.2.2.2.2.2.2.2)) H := hP
  have hD : va_D A (w6 aM K (M.1, M.2.1, M.2.2.1, M.2.2.2.1, t1, M.2.2.2.2.2.1, M.2.2.2.2.2.2.1, M.2.2.2.2.2.2.2.1, M.2.2.2.2.2.2.2.2.1, M.2.2.2.2.2.2.2.2.2.1, M.2.2.2.2.2.2.2.2.2.2.1, M.2.2.2.2.2.2.2.2.2.2.2.1, M.2.2.2.2.2.2.2.2.2.2.2.2.1, M.2.2.2.2.2.2.2.2.2.2.2.2.2.1, M.2.2.2.2.2.2.2.2.2.2.2.2.2.2.1, M.2.2.2.2.2.2.2.2.2.2.2.2.2.2.2.1, M.2.2.2.2.2.2.2.2.2.2.2.2.2.2.2.2.1, M.2.2.2.2.2.2.2.2.2.2.2.2.2.2.2.2.2.1, M.2.2.2.2.2.2.2.2.2.2.2.2.2.2.2.2.2.2.1, M.2.2.2.2.2.2.2.2.2.2.2.2.2.2.2.2.2.2.2.1, M.2.2.2.2.2.2.2.2.2.2.2.2.2.2.2.2.2.2.2.2)) := hD
  refine lv_aload_n hx hb dX6_readHead_35 rfl (lv_at hl 0 rfl) ?_
  refine va_get (D := D) (ci := 6) (v := .int t1) (C := RX6) (T := TX6) (N := 21) hx hb hts xu_X6 hown hK hP 0 rfl rfl 4 (by decide) (hts _ xw_511) (fun _ h9 => h9) rfl dX6_readHead_36 ?_
  refine lv_if_eq (tgt := 43) hx hb dX6_readHead_39 (by decide) (fun c9 => ?_) (fun c9 => ?_)
  · replace h := xi_t c9 h
    refine lv_aload_n hx hb dX6_readHead_43 rfl (lv_at hl 0 rfl) ?_
    refine lv_iconst (v := (0 : Int32)) hx hb dX6_readHead_44 (by decide) ?_
    refine va_put (D := D) (ci := 6) (v := .int (0 : Int32)) (ty := .int) (C := RX6) (T := TX6) (N := 21) hx hb hts xu_X6 tyX6 tyX6_ok nmX6 hown hK hP hD hS 0 rfl rfl 15 (by decide) (hts _ xw_522) (fun _ h9 => h9) rfl (by decide +kernel) rfl rfl (Nat.le_of_ble_eq_true rfl) dX6_readHead_45 (fun H locs hP hD hS => ?_)
    have hP : va_P D vwCl (w6 aM K (M.1, M.2.1, M.2.2.1, M.2.2.2.1, t1, M.2.2.2.2.2.1, M.2.2.2.2.2.2.1, M.2.2.2.2.2.2.2.1, M.2.2.2.2.2.2.2.2.1, M.2.2.2.2.2.2.2.2.2.1, M.2.2.2.2.2.2.2.2.2.2.1, M.2.2.2.2.2.2.2.2.2.2.2.1, M.2.2.2.2.2.2.2.2.2.2.2.2.1, M.2.2.2.2.2.2.2.2.2.2.2.2.2.1, M.2.2.2.2.2.2.2.2.2.2.2.2.2.2.1, (0 : Int32), M.2.2.2.2.2.2.2.2.2.2.2.2.2.2.2.2.1, M.2.2.2.2.2.2.2.2.2.2.2.2.2.2.2.2.2.1, M.2.2.2.2.2.2.2.2.2.2.2.2.2.2.2.2.2.2.1, M.2.2.2.2.2.2.2.2.2.2.2.2.2.2.2.2.2.2.2.1, M.2.2.2.2.2.2.2.2.2.2.2.2.2.2.2.2.2.2.2.2)) H := hP
    have hD : va_D A (w6 aM K (M.1, M.2.1, M.2.2.1, M.2.2.2.1, t1, M.2.2.2.2.2.1, M.2.2.2.2.2.2.1, M.2.2.2.2.2.2.2.1, M.2.2.2.2.2.2.2.2.1, M.2.2.2.2.2.2.2.2.2.1, M.2.2.2.2.2.2.2.2.2.2.1, M.2.2.2.2.2.2.2.2.2.2.2.1, M.2.2.2.2.2.2.2.2.2.2.2.2.1, M.2.2.2.2.2.2.2.2.2.2.2.2.2.1, M.2.2.2.2.2.2.2.2.2.2.2.2.2.2.1, (0 : Int32), M.2.2.2.2.2.2.2.2.2.2.2.2.2.2.2.2.1, M.2.2.2.2.2.2.2.2.2.2.2.2.2.2.2.2.2.1, M.2.2.2.2.2.2.2.2.2.2.2.2.2.2.2.2.2.2.1, M.2.2.2.2.2.2.2.2.2.2.2.2.2.2.2.2.2.2.2.1, M.2.2.2.2.2.2.2.2.2.2.2.2.2.2.2.2.2.2.2.2)) := hD
    refine lv_aload_n hx hb dX6_readHead_48 rfl (lv_at hl 0 rfl) ?_
    refine lv_iconst (v := (1 : Int32)) hx hb dX6_readHead_49 (by decide) ?_
    refine va_put (D := D) (ci := 6) (v := .int (1 : Int32)) (ty := .int) (C := RX6) (T := TX6) (N := 21) hx hb hts xu_X6 tyX6 tyX6_ok nmX6 hown hK hP hD hS 0 rfl rfl 16 (by decide) (hts _ xw_523) (fun _ h9 => h9) rfl (by decide +kernel) rfl rfl (Nat.le_of_ble_eq_true rfl) dX6_readHead_50 (fun H locs hP hD hS => ?_)
    have hP : va_P D vwCl (w6 aM K (M.1, M.2.1, M.2.2.1, M.2.2.2.1, t1, M.2.2.2.2.2.1, M.2.2.2.2.2.2.1, M.2.2.2.2.2.2.2.1, M.2.2.2.2.2.2.2.2.1, M.2.2.2.2.2.2.2.2.2.1, M.2.2.2.2.2.2.2.2.2.2.1, M.2.2.2.2.2.2.2.2.2.2.2.1, M.2.2.2.2.2.2.2.2.2.2.2.2.1, M.2.2.2.2.2.2.2.2.2.2.2.2.2.1, M.2.2.2.2.2.2.2.2.2.2.2.2.2.2.1, (0 : Int32), (1 : Int32), M.2.2.2.2.2.2.2.2.2.2.2.2.2.2.2.2.2.1, M.2.2.2.2.2.2.2.2.2.2.2.2.2.2.2.2.2.2.1, M.2.2.2.2.2.2.2.2.2.2.2.2.2.2.2.2.2.2.2.1, M.2.2.2.2.2.2.2.2.2.2.2.2.2.2.2.2.2.2.2.2)) H := hP
    have hD : va_D A (w6 aM K (M.1, M.2.1, M.2.2.1, M.2.2.2.1, t1, M.2.2.2.2.2.1, M.2.2.2.2.2.2.1, M.2.2.2.2.2.2.2.1, M.2.2.2.2.2.2.2.2.1, M.2.2.2.2.2.2.2.2.2.1, M.2.2.2.2.2.2.2.2.2.2.1, M.2.2.2.2.2.2.2.2.2.2.2.1, M.2.2.2.2.2.2.2.2.2.2.2.2.1, M.2.2.2.2.2.2.2.2.2.2.2.2.2.1, M.2.2.2.2.2.2.2.2.2.2.2.2.2.2.1, (0 : Int32), (1 : Int32), M.2.2.2.2.2.2.2.2.2.2.2.2.2.2.2.2.2.1, M.2.2.2.2.2.2.2.2.2.2.2.2.2.2.2.2.2.2.1, M.2.2.2.2.2.2.2.2.2.2.2.2.2.2.2.2.2.2.2.1, M.2.2.2.2.2.2.2.2.2.2.2.2.2.2.2.2.2.2.2.2)) := hD
    refine lv_aload_n hx hb dX6_readHead_53 rfl (lv_at hl 0 rfl) ?_
    refine va_get (D := D) (ci := 6) (v := .int M.2.2.2.2.2.2.2.2.2.2.2.2.2.2.1) (C := RX6) (T := TX6) (N := 21) hx hb hts xu_X6 hown hK hP 0 rfl rfl 14 (by decide) (hts _ xw_521) (fun _ h9 => h9) rfl dX6_readHead_54 ?_
    refine lv_iconst (v := (1 : Int32)) hx hb dX6_readHead_57 (by decide) ?_
    refine lv_icmp_le (tgt := 84) hx hb dX6_readHead_58 (by decide) (fun c9 => ?_) (fun c9 => ?_)
    · replace h := xi_t c9 h
      exact kX6_readHead_84 C _ _ h _ _ _ hP hD hS (lv_sub hl [0] rfl)
    · replace h := xi_f c9 h
      refine lv_aload_n hx hb dX6_readHead_61 rfl (lv_at hl 0 rfl) ?_
      refine lv_bipush (v := (6 : Int32)) hx hb dX6_readHead_62 (by decide) ?_
      refine lv_aload_n hx hb dX6_readHead_64 rfl (lv_at hl 0 rfl) ?_
      refine va_get (D := D) (ci := 6) (v := .int M.2.2.2.2.2.2.2.2.2.2.2.2.2.2.1) (C := RX6) (T := TX6) (N := 21) hx hb hts xu_X6 hown hK hP 0 rfl rfl 14 (by decide) (hts _ xw_521) (fun _ h9 => h9) rfl dX6_readHead_65 ?_
      refine lv_iconst (v := (2 : Int32)) hx hb dX6_readHead_68 (by decide) ?_
      refine lv_iadd hx hb dX6_readHead_69 ?_
      obtain ⟨v_3, s_4, hc9, h⟩ := xi_d h
      refine xc_V (As := [.int (6 : Int32), .int (M.2.2.2.2.2.2.2.2.2.2.2.2.2.2.1 + (2 : Int32))]) (ws' := w6 aM K s_4) C (mX6_readCode l D K aM _ _ _ _ _ hc9) xgi_X6_97 xd_X6_readCode ⟨Nat.le_of_ble_eq_true rfl, Nat.le_of_ble_eq_true rfl⟩ ⟨Nat.zero_le _, Nat.zero_le _⟩ hl rfl (Nat.le_of_ble_eq_true rfl) dX6_readHead_70 hP hD hS 0 6 rfl rfl rfl [0, 1, 2, 3, 4, 5, 6, 7, 8, 9, 10, 11] rfl rfl [(0, w6 aM K s_4)] rfl rfl rfl (List.forall_mem_cons.mpr ⟨Nat.le_of_ble_eq_true rfl, (fun _ h => absurd h List.not_mem_nil)⟩) (fun H locs hP hD hS => ?_)
      refine W.eq (g2 := F0 m 73 ls []) rfl ?_
      refine lv_aload_n hx hb dX6_readHead_73 rfl (lv_at hl 0 rfl) ?_
      refine lv_aload_n hx hb dX6_readHead_74 rfl (lv_at hl 0 rfl) ?_
      refine lv_iconst (v := (5 : Int32)) hx hb dX6_readHead_75 (by decide) ?_
      obtain ⟨v_5, s_6, hc9, h⟩ := xi_d h
      refine xc_V (As := [.int (5 : Int32)]) (ws' := w6 aM K s_6) C (mX6_number l D K aM _ _ _ _ hc9) xgi_X6_66 xd_X6_number ⟨Nat.le_of_ble_eq_true rfl, Nat.le_of_ble_eq_true rfl⟩ ⟨Nat.zero_le _, Nat.zero_le _⟩ hl rfl (Nat.le_of_ble_eq_true rfl) dX6_readHead_76 hP hD hS 0 6 rfl rfl rfl [0, 1, 2, 3, 4, 5, 6, 7, 8, 9, 10, 11] rfl rfl [(0, w6 aM K s_6)] rfl rfl rfl (List.forall_mem_cons.mpr ⟨Nat.le_of_ble_eq_true rfl, (fun _ h => absurd h List.not_mem_nil)⟩) (fun H locs hP hD hS => ?_)
      refine W.eq (g2 := F0 m 79 ls [.int v_5, .ref (aM 0)]) rfl ?_
      refine lv_iconst (v := (1 : Int32)) hx hb dX6_readHead_79 (by decide) ?_
      refine lv_iadd hx hb dX6_readHead_80 ?_
      refine va_put (D := D) (ci := 6) (v := .int (v_5 + (1 : Int32))) (ty := .int) (C := RX6) (T := TX6) (N := 21) hx hb hts xu_X6 tyX6 tyX6_ok nmX6 hown hK hP hD hS 0 rfl rfl 17 (by decide) (hts _ xw_524) (fun _ h9 => h9) rfl (by decide +kernel) rfl rfl (Nat.le_of_ble_eq_true rfl) dX6_readHead_81 (fun H locs hP hD hS => ?_)
      have hP : va_P D vwCl (w6 aM K (s_6.1, s_6.2.1, s_6.2.2.1, s_6.2.2.2.1, s_6.2.2.2.2.1, s_6.2.2.2.2.2.1, s_6.2.2.2.2.2.2.1, s_6.2.2.2.2.2.2.2.1, s_6.2.2.2.2.2.2.2.2.1, s_6.2.2.2.2.2.2.2.2.2.1, s_6.2.2.2.2.2.2.2.2.2.2.1, s_6.2.2.2.2.2.2.2.2.2.2.2.1, s_6.2.2.2.2.2.2.2.2.2.2.2.2.1, s_6.2.2.2.2.2.2.2.2.2.2.2.2.2.1, s_6.2.2.2.2.2.2.2.2.2.2.2.2.2.2.1, s_6.2.2.2.2.2.2.2.2.2.2.2.2.2.2.2.1, s_6.2.2.2.2.2.2.2.2.2.2.2.2.2.2.2.2.1, (v_5 + (1 : Int32)), s_6.2.2.2.2.2.2.2.2.2.2.2.2.2.2.2.2.2.2.1, s_6.2.2.2.2.2.2.2.2.2.2.2.2.2.2.2.2.2.2.2.1, s_6.2.2.2.2.2.2.2.2.2.2.2.2.2.2.2.2.2.2.2.2)) H := hP
      have hD : va_D A (w6 aM K (s_6.1, s_6.2.1, s_6.2.2.1, s_6.2.2.2.1, s_6.2.2.2.2.1, s_6.2.2.2.2.2.1, s_6.2.2.2.2.2.2.1, s_6.2.2.2.2.2.2.2.1, s_6.2.2.2.2.2.2.2.2.1, s_6.2.2.2.2.2.2.2.2.2.1, s_6.2.2.2.2.2.2.2.2.2.2.1, s_6.2.2.2.2.2.2.2.2.2.2.2.1, s_6.2.2.2.2.2.2.2.2.2.2.2.2.1, s_6.2.2.2.2.2.2.2.2.2.2.2.2.2.1, s_6.2.2.2.2.2.2.2.2.2.2.2.2.2.2.1, s_6.2.2.2.2.2.2.2.2.2.2.2.2.2.2.2.1, s_6.2.2.2.2.2.2.2.2.2.2.2.2.2.2.2.2.1, (v_5 + (1 : Int32)), s_6.2.2.2.2.2.2.2.2.2.2.2.2.2.2.2.2.2.2.1, s_6.2.2.2.2.2.2.2.2.2.2.2.2.2.2.2.2.2.2.2.1, s_6.2.2.2.2.2.2.2.2.2.2.2.2.2.2.2.2.2.2.2.2)) := hD
      exact kX6_readHead_84 C _ _ h _ _ _ hP hD hS (lv_sub hl [0] rfl)
  · replace h := xi_f c9 h
    obtain rfl := Option.some.inj h
    exact xe_v C hP hD hS dX6_readHead_42
set_option maxHeartbeats 4000000 in
set_option maxRecDepth 100000 in
theorem mX6_readHead (l : Launch) (D : va_G) (K : Nat → ClassId) (aM : Nat → Nat) (sz : Nat) (M : S6) (r : Unit × (S6)) (h : fX6_readHead M = some r) : xMet l yX6_readHead cX6_readHead 3 none 3 74 D K [.ref (aM 0)] sz (w6 aM K M) (oX6_readHead aM K r) := by
  refine xm_of _ (by decide +kernel) (Nat.le_of_ble_eq_true rfl) (fun p e s m args below meth c A C hP hD ls hl => ?_)
  have hl : lv_has ls 3 [(0, .ref (aM 0))] := hl
  have hS : va_S A s.heap s.heap [] := va_S.rf
  obtain ⟨hx, hb, hr, hml, hown, hK, hts, hA, hG, hlk, hte, hnm⟩ := id C
  replace h : xbnd0 (fX6_number M (2 : Int32)) (fun v_1 s_2 => (if s_2.2.2.2.2.1 = 0 then (if (v_1 + (1 : Int32)) ≤ (3 : Int32) then fX6_readHead_32 (s_2.1, s_2.2.1, s_2.2.2.1, s_2.2.2.2.1, s_2.2.2.2.2.1, s_2.2.2.2.2.2.1, s_2.2.2.2.2.2.2.1, s_2.2.2.2.2.2.2.2.1, s_2.2.2.2.2.2.2.2.2.1, s_2.2.2.2.2.2.2.2.2.2.1, s_2.2.2.2.2.2.2.2.2.2.2.1, s_2.2.2.2.2.2.2.2.2.2.2.2.1, s_2.2.2.2.2.2.2.2.2.2.2.2.2.1, s_2.2.2.2.2.2.2.2.2.2.2.2.2.2.1, (v_1 + (1 : Int32)), s_2.2.2.2.2.2.2.2.2.2.2.2.2.2.2.2.1, s_2.2.2.2.2.2.2.2.2.2.2.2.2.2.2.2.2.1, s_2.2.2.2.2.2.2.2.2.2.2.2.2.2.2.2.2.2.1, s_2.2.2.2.2.2.2.2.2.2.2.2.2.2.2.2.2.2.2.1, s_2.2.2.2.2.2.2.2.2.2.2.2.2.2.2.2.2.2.2.2.1, s_2.2.2.2.2.2.2.2.2.2.2.2.2.2.2.2.2.2.2.2.2) (0 : Int32) else fX6_readHead_32 (s_2.1, s_2.2.1, s_2.2.2.1, s_2.2.2.2.1, s_2.2.2.2.2.1, s_2.2.2.2.2.2.1, s_2.2.2.2.2.2.2.1, s_2.2.2.2.2.2.2.2.1, s_2.2.2.2.2.2.2.2.2.1, s_2.2.2.2.2.2.2.2.2.2.1, s_2.2.2.2.2.2.2.2.2.2.2.1, s_2.2.2.2.2.2.2.2.2.2.2.2.1, s_2.2.2.2.2.2.2.2.2.2.2.2.2.1, s_2.2.2.2.2.2.2.2.2.2.2.2.2.2.1, (v_1 + (1 : Int32)), s_2.2.2.2.2.2.2.2.2.2.2.2.2.2.2.2.1, s_2.2.2.2.2.2.2.2.2.2.2.2.2.2.2.2.2.1, s_2.2.2.2.2.2.2.2.2.2.2.2.2.2.2.2.2.2.1, s_2.2.2.2.2.2.2.2.2.2.2.2.2.2.2.2.2.2.2.1, s_2.2.2.2.2.2.2.2.2.2.2.2.2.2.2.2.2.2.2.2.1, s_2.2.2.2.2.2.2.2.2.2.2.2.2.2.2.2.2.2.2.2.2) (1 : Int32)) else fX6_readHead_32 (s_2.1, s_2.2.1, s_2.2.2.1, s_2.2.2.2.1, s_2.2.2.2.2.1, s_2.2.2.2.2.2.1, s_2.2.2.2.2.2.2.1, s_2.2.2.2.2.2.2.2.1, s_2.2.2.2.2.2.2.2.2.1, s_2.2.2.2.2.2.2.2.2.2.1, s_2.2.2.2.2.2.2.2.2.2.2.1, s_2.2.2.2.2.2.2.2.2.2.2.2.1, s_2.2.2.2.2.2.2.2.2.2.2.2.2.1, s_2.2.2.2.2.2.2.2.2.2.2.2.2.2.1, (v_1 + (1 : Int32)), s_2.2.2.2.2.2.2.2.2.2.2.2.2.2.2.2.1, s_2.2.2.2.2.2.2.2.2.2.2.2.2.2.2.2.2.1, s_2.2.2.2.2.2.2.2.2.2.2.2.2.2.2.2.2.2.1, s_2.2.2.2.2.2.2.2.2.2.2.2.2.2.2.2.2.2.2.1, s_2.2.2.2.2.2.2.2.2.2.2.2.2.2.2.2.2.2.2.2.1, s_2.2.2.2.2.2.2.2.2.2.2.2.2.2.2.2.2.2.2.2.2) (1 : Int32))) = some r := h
  refine lv_aload_n hx hb dX6_readHead_0 rfl (lv_at hl 0 rfl) ?_
  refine lv_aload_n hx hb dX6_readHead_1 rfl (lv_at hl 0 rfl) ?_
  refine lv_iconst (v := (2 : Int32)) hx hb dX6_readHead_2 (by decide) ?_
  obtain ⟨v_1, s_2, hc9, h⟩ := xi_d h
  refine xc_V (As := [.int (2 : Int32)]) (ws' := w6 aM K s_2) C (mX6_number l D K aM _ _ _ _ hc9) xgi_X6_66 xd_X6_number ⟨Nat.le_of_ble_eq_true rfl, Nat.le_of_ble_eq_true rfl⟩ ⟨Nat.zero_le _, Nat.zero_le _⟩ hl rfl (Nat.le_of_ble_eq_true rfl) dX6_readHead_3 hP hD hS 0 6 rfl rfl rfl [0, 1, 2, 3, 4, 5, 6, 7, 8, 9, 10, 11] rfl rfl [(0, w6 aM K s_2)] rfl rfl rfl (List.forall_mem_cons.mpr ⟨Nat.le_of_ble_eq_true rfl, (fun _ h => absurd h List.not_mem_nil)⟩) (fun H locs hP hD hS => ?_)
  refine W.eq (g2 := F0 m 6 ls [.int v_1, .ref (aM 0)]) rfl ?_
  refine lv_iconst (v := (1 : Int32)) hx hb dX6_readHead_6 (by decide) ?_
  refine lv_iadd hx hb dX6_readHead_7 ?_
  refine va_put (D := D) (ci := 6) (v := .int (v_1 + (1 : Int32))) (ty := .int) (C := RX6) (T := TX6) (N := 21) hx hb hts xu_X6 tyX6 tyX6_ok nmX6 hown hK hP hD hS 0 rfl rfl 14 (by decide) (hts _ xw_521) (fun _ h9 => h9) rfl (by decide +kernel) rfl rfl (Nat.le_of_ble_eq_true rfl) dX6_readHead_8 (fun H locs hP hD hS => ?_)
  have hP : va_P D vwCl (w6 aM K (s_2.1, s_2.2.1, s_2.2.2.1, s_2.2.2.2.1, s_2.2.2.2.2.1, s_2.2.2.2.2.2.1, s_2.2.2.2.2.2.2.1, s_2.2.2.2.2.2.2.2.1, s_2.2.2.2.2.2.2.2.2.1, s_2.2.2.2.2.2.2.2.2.2.1, s_2.2.2.2.2.2.2.2.2.2.2.1, s_2.2.2.2.2.2.2.2.2.2.2.2.1, s_2.2.2.2.2.2.2.2.2.2.2.2.2.1, s_2.2.2.2.2.2.2.2.2.2.2.2.2.2.1, (v_1 + (1 : Int32)), s_2.2.2.2.2.2.2.2.2.2.2.2.2.2.2.2.1, s_2.2.2.2.2.2.2.2.2.2.2.2.2.2.2.2.2.1, s_2.2.2.2.2.2.2.2.2.2.2.2.2.2.2.2.2.2.1, s_2.2.2.2.2.2.2.2.2.2.2.2.2.2.2.2.2.2.2.1, s_2.2.2.2.2.2.2.2.2.2.2.2.2.2.2.2.2.2.2.2.1, s_2.2.2.2.2.2.2.2.2.2.2.2.2.2.2.2.2.2.2.2.2)) H := hP
  have hD : va_D A (w6 aM K (s_2.1, s_2.2.1, s_2.2.2.1, s_2.2.2.2.1, s_2.2.2.2.2.1, s_2.2.2.2.2.2.1, s_2.2.2.2.2.2.2.1, s_2.2.2.2.2.2.2.2.1, s_2.2.2.2.2.2.2.2.2.1, s_2.2.2.2.2.2.2.2.2.2.1, s_2.2.2.2.2.2.2.2.2.2.2.1, s_2.2.2.2.2.2.2.2.2.2.2.2.1, s_2.2.2.2.2.2.2.2.2.2.2.2.2.1, s_2.2.2.2.2.2.2.2.2.2.2.2.2.2.1, (v_1 + (1 : Int32)), s_2.2.2.2.2.2.2.2.2.2.2.2.2.2.2.2.1, s_2.2.2.2.2.2.2.2.2.2.2.2.2.2.2.2.2.1, s_2.2.2.2.2.2.2.2.2.2.2.2.2.2.2.2.2.2.1, s_2.2.2.2.2.2.2.2.2.2.2.2.2.2.2.2.2.2.2.1, s_2.2.2.2.2.2.2.2.2.2.2.2.2.2.2.2.2.2.2.2.1, s_2.2.2.2.2.2.2.2.2.2.2.2.2.2.2.2.2.2.2.2.2)) := hD
  refine lv_aload_n hx hb dX6_readHead_11 rfl (lv_at hl 0 rfl) ?_
  refine lv_aload_n hx hb dX6_readHead_12 rfl (lv_at hl 0 rfl) ?_
  refine va_get (D := D) (ci := 6) (v := .int s_2.2.2.2.2.1) (C := RX6) (T := TX6) (N := 21) hx hb hts xu_X6 hown hK hP 0 rfl rfl 4 (by decide) (hts _ xw_511) (fun _ h9 => h9) rfl dX6_readHead_13 ?_
  refine lv_if_ne (tgt := 27) hx hb dX6_readHead_16 (by decide) (fun c9 => ?_) (fun c9 => ?_)
  · replace h := xi_f c9 h
    refine lv_iconst (v := (1 : Int32)) hx hb dX6_readHead_27 (by decide) ?_
    refine lv_goto (tgt := 32) hx hb dX6_readHead_28 (by decide) ?_
    exact kX6_readHead_32 C _ _ _ h _ _ _ hP hD hS (lv_sub hl [0] rfl)
  · replace h := xi_t c9 h
    refine lv_aload_n hx hb dX6_readHead_19 rfl (lv_at hl 0 rfl) ?_
    refine va_get (D := D) (ci := 6) (v := .int (v_1 + (1 : Int32))) (C := RX6) (T := TX6) (N := 21) hx hb hts xu_X6 hown hK hP 0 rfl rfl 14 (by decide) (hts _ xw_521) (fun _ h9 => h9) rfl dX6_readHead_20 ?_
    refine lv_iconst (v := (3 : Int32)) hx hb dX6_readHead_23 (by decide) ?_
    refine lv_icmp_le (tgt := 31) hx hb dX6_readHead_24 (by decide) (fun c9 => ?_) (fun c9 => ?_)
    · replace h := xi_t c9 h
      refine lv_iconst (v := (0 : Int32)) hx hb dX6_readHead_31 (by decide) ?_
      exact kX6_readHead_32 C _ _ _ h _ _ _ hP hD hS (lv_sub hl [0] rfl)
    · replace h := xi_f c9 h
      refine lv_iconst (v := (1 : Int32)) hx hb dX6_readHead_27 (by decide) ?_
      refine lv_goto (tgt := 32) hx hb dX6_readHead_28 (by decide) ?_
      exact kX6_readHead_32 C _ _ _ h _ _ _ hP hD hS (lv_sub hl [0] rfl)
abbrev oX6_turn (aM : Nat → Nat) (K : Nat → ClassId) (q : Unit × (S6)) : xO := .inr (none, w6 aM K q.2)
def fX6_turn_40 (M : S6) (t0 : Int32) : Option (Unit × (S6)) := xbnd0 (fX6_number M (5 : Int32)) (fun v_3 s_4 => (if s_4.2.2.2.2.1 = 0 then (if (4 : Int32) < 0 ∨ 9 ≤ ((4 : Int32)).toNatClampNeg then none else (if (4 : Int32) < 0 ∨ 9 ≤ ((4 : Int32)).toNatClampNeg then none else some ((), (s_4.1, s_4.2.1, s_4.2.2.1, s_4.2.2.2.1, s_4.2.2.2.2.1, s_4.2.2.2.2.2.1, s_4.2.2.2.2.2.2.1, s_4.2.2.2.2.2.2.2.1, s_4.2.2.2.2.2.2.2.2.1, s_4.2.2.2.2.2.2.2.2.2.1, (upd s_4.2.2.2.2.2.2.2.2.2.2.1 ((4 : Int32)).toNatClampNeg ((s_4.2.2.2.2.2.2.2.2.2.2.1 ((4 : Int32)).toNatClampNeg) + (1 : Int32))), s_4.2.2.2.2.2.2.2.2.2.2.2.1, s_4.2.2.2.2.2.2.2.2.2.2.2.2.1, s_4.2.2.2.2.2.2.2.2.2.2.2.2.2.1, s_4.2.2.2.2.2.2.2.2.2.2.2.2.2.2.1, t0, s_4.2.2.2.2.2.2.2.2.2.2.2.2.2.2.2.1, (v_3 + (1 : Int32)), s_4.2.2.2.2.2.2.2.2.2.2.2.2.2.2.2.2.2.2.1, s_4.2.2.2.2.2.2.2.2.2.2.2.2.2.2.2.2.2.2.2.1, s_4.2.2.2.2.2.2.2.2.2.2.2.2.2.2.2.2.2.2.2.2)))) else some ((), (s_4.1, s_4.2.1, s_4.2.2.1, s_4.2.2.2.1, s_4.2.2.2.2.1, s_4.2.2.2.2.2.1, s_4.2.2.2.2.2.2.1, s_4.2.2.2.2.2.2.2.1, s_4.2.2.2.2.2.2.2.2.1, s_4.2.2.2.2.2.2.2.2.2.1, s_4.2.2.2.2.2.2.2.2.2.2.1, s_4.2.2.2.2.2.2.2.2.2.2.2.1, s_4.2.2.2.2.2.2.2.2.2.2.2.2.1, s_4.2.2.2.2.2.2.2.2.2.2.2.2.2.1, s_4.2.2.2.2.2.2.2.2.2.2.2.2.2.2.1, s_4.2.2.2.2.2.2.2.2.2.2.2.2.2.2.2.1, s_4.2.2.2.2.2.2.2.2.2.2.2.2.2.2.2.2.1, (v_3 + (1 : Int32)), s_4.2.2.2.2.2.2.2.2.2.2.2.2.2.2.2.2.2.2.1, s_4.2.2.2.2.2.2.2.2.2.2.2.2.2.2.2.2.2.2.2.1, s_4.2.2.2.2.2.2.2.2.2.2.2.2.2.2.2.2.2.2.2.2))))
def fX6_turn (M : S6) : Option (Unit × (S6)) := xbnd0 (fX6_symbol M (6 : Int32)) (fun v_1 s_2 => (if v_1 = 0 then fX6_turn_40 s_2 s_2.2.2.2.2.2.2.2.2.2.2.2.2.2.2.2.2.1 else (if v_1 = (1 : Int32) then (if s_2.2.2.2.2.2.2.2.2.2.2.2.2.2.2.1 = 0 then none else fX6_turn_40 s_2 ((s_2.2.2.2.2.2.2.2.2.2.2.2.2.2.2.2.1 + (1 : Int32)) - (s_2.2.2.2.2.2.2.2.2.2.2.2.2.2.2.2.1 + (1 : Int32)) / s_2.2.2.2.2.2.2.2.2.2.2.2.2.2.2.1 * s_2.2.2.2.2.2.2.2.2.2.2.2.2.2.2.1)) else fX6_turn_40 s_2 (v_1 - (2 : Int32)))))
set_option maxHeartbeats 4000000 in
set_option maxRecDepth 100000 in
theorem kX6_turn_40 {p : Program} {l : Launch} {e : Env} {s : State} {m : MethodId} {args : Array Value} {below : List Frame} {meth : Method} {c : Code} {D : va_G} {K : Nat → ClassId} {A : Nat → Prop} {aM : Nat → Nat} (C : xC p s m args meth c cX6_turn 3 none yX6_turn D K A []) : ∀ (M : S6) (t0 : Int32) (r : Unit × (S6)), fX6_turn_40  M t0 = some r → ∀ (H : Heap) (locs : List Loc) (ls : Array Slot), va_P D vwCl (w6 aM K M) H → va_D A (w6 aM K M) → va_S A s.heap H locs → lv_has ls 3 [(0, .ref (aM 0))] → W p l e (xR 2 50 (oX6_turn aM K r)) s m args below meth c H locs 0 0 (xQ below args s D K A (oX6_turn aM K r)) (F0 m 40 ls [.int t0]) := by
  obtain ⟨hx, hb, hr, hml, hown, hK, hts, hA, hG, hlk, hte, hnm⟩ := id C
  intro M t0 r h H locs ls hP hD hS hl
  replace h : xbnd0 (fX6_number M (5 : Int32)) (fun v_3 s_4 => (if s_4.2.2.2.2.1 = 0 then (if (4 : Int32) < 0 ∨ 9 ≤ ((4 : Int32)).toNatClampNeg then none else (if (4 : Int32) < 0 ∨ 9 ≤ ((4 : Int32)).toNatClampNeg then none else some ((), (s_4.1, s_4.2.1, s_4.2.2.1, s_4.2.2.2.1, s_4.2.2.2.2.1, s_4.2.2.2.2.2.1, s_4.2.2.2.2.2.2.1, s_4.2.2.2.2.2.2.2.1, s_4.2.2.2.2.2.2.2.2.1, s_4.2.2.2.2.2.2.2.2.2.1, (upd s_4.2.2.2.2.2.2.2.2.2.2.1 ((4 : Int32)).toNatClampNeg ((s_4.2.2.2.2.2.2.2.2.2.2.1 ((4 : Int32)).toNatClampNeg) + (1 : Int32))), s_4.2.2.2.2.2.2.2.2.2.2.2.1, s_4.2.2.2.2.2.2.2.2.2.2.2.2.1, s_4.2.2.2.2.2.2.2.2.2.2.2.2.2.1, s_4.2.2.2.2.2.2.2.2.2.2.2.2.2.2.1, t0, s_4.2.2.2.2.2.2.2.2.2.2.2.2.2.2.2.1, (v_3 + (1 : Int32)), s_4.2.2.2.2.2.2.2.2.2.2.2.2.2.2.2.2.2.2.1, s_4.2.2.2.2.2.2.2.2.2.2.2.2.2.2.2.2.2.2.2.1, s_4.2.2.2.2.2.2.2.2.2.2.2.2.2.2.2.2.2.2.2.2)))) else some ((), (s_4.1, s_4.2.1, s_4.2.2.1, s_4.2.2.2.1, s_4.2.2.2.2.1, s_4.2.2.2.2.2.1, s_4.2.2.2.2.2.2.1, s_4.2.2.2.2.2.2.2.1, s_4.2.2.2.2.2.2.2.2.1, s_4.2.2.2.2.2.2.2.2.2.1, s_4.2.2.2.2.2.2.2.2.2.2.1, s_4.2.2.2.2.2.2.2.2.2.2.2.1, s_4.2.2.2.2.2.2.2.2.2.2.2.2.1, s_4.2.2.2.2.2.2.2.2.2.2.2.2.2.1, s_4.2.2.2.2.2.2.2.2.2.2.2.2.2.2.1, s_4.2.2.2.2.2.2.2.2.2.2.2.2.2.2.2.1, s_4.2.2.2.2.2.2.2.2.2.2.2.2.2.2.2.2.1, (v_3 + (1 : Int32)), s_4.2.2.2.2.2.2.2.2.2.2.2.2.2.2.2.2.2.2.1, s_4.2.2.2.2.2.2.2.2.2.2.2.2.2.2.2.2.2.2.2.1, s_4.2.2.2.2.2.2.2.2.2.2.2.2.2.2.2.2.2.2.2.2)))) = some r := h
  refine lv_istore_n (lv' := [(2, .int t0), (0, .ref (aM 0))]) hx hb dX6_turn_40 rfl hl (by decide) rfl (fun ls hl => ?_)
  refine lv_aload_n hx hb dX6_turn_41 rfl (lv_at hl 1 rfl) ?_
  refine lv_aload_n hx hb dX6_turn_42 rfl (lv_at hl 1 rfl) ?_
  refine lv_iconst (v := (5 : Int32)) hx hb dX6_turn_43 (by decide) ?_
  obtain ⟨v_3, s_4, hc9, h⟩ := xi_d h
  refine xc_V (As := [.int (5 : Int32)]) (ws' := w6 aM K s_4) C (mX6_number l D K aM _ _ _ _ hc9) xgi_X6_66 xd_X6_number ⟨Nat.le_of_ble_eq_true rfl, Nat.le_of_ble_eq_true rfl⟩ ⟨Nat.zero_le _, Nat.zero_le _⟩ hl rfl (Nat.le_of_ble_eq_true rfl) dX6_turn_44 hP hD hS 0 6 rfl rfl rfl [0, 1, 2, 3, 4, 5, 6, 7, 8, 9, 10, 11] rfl rfl [(0, w6 aM K s_4)] rfl rfl rfl (List.forall_mem_cons.mpr ⟨Nat.le_of_ble_eq_true rfl, (fun _ h => absurd h List.not_mem_nil)⟩) (fun H locs hP hD hS => ?_)
  refine W.eq (g2 := F0 m 47 ls [.int v_3, .ref (aM 0)]) rfl ?_
  refine lv_iconst (v := (1 : Int32)) hx hb dX6_turn_47 (by decide) ?_
  refine lv_iadd hx hb dX6_turn_48 ?_
  refine va_put (D := D) (ci := 6) (v := .int (v_3 + (1 : Int32))) (ty := .int) (C := RX6) (T := TX6) (N := 21) hx hb hts xu_X6 tyX6 tyX6_ok nmX6 hown hK hP hD hS 0 rfl rfl 17 (by decide) (hts _ xw_524) (fun _ h9 => h9) rfl (by decide +kernel) rfl rfl (Nat.le_of_ble_eq_true rfl) dX6_turn_49 (fun H locs hP hD hS => ?_)
  have hP : va_P D vwCl (w6 aM K (s_4.1, s_4.2.1, s_4.2.2.1, s_4.2.2.2.1, s_4.2.2.2.2.1, s_4.2.2.2.2.2.1, s_4.2.2.2.2.2.2.1, s_4.2.2.2.2.2.2.2.1, s_4.2.2.2.2.2.2.2.2.1, s_4.2.2.2.2.2.2.2.2.2.1, s_4.2.2.2.2.2.2.2.2.2.2.1, s_4.2.2.2.2.2.2.2.2.2.2.2.1, s_4.2.2.2.2.2.2.2.2.2.2.2.2.1, s_4.2.2.2.2.2.2.2.2.2.2.2.2.2.1, s_4.2.2.2.2.2.2.2.2.2.2.2.2.2.2.1, s_4.2.2.2.2.2.2.2.2.2.2.2.2.2.2.2.1, s_4.2.2.2.2.2.2.2.2.2.2.2.2.2.2.2.2.1, (v_3 + (1 : Int32)), s_4.2.2.2.2.2.2.2.2.2.2.2.2.2.2.2.2.2.2.1, s_4.2.2.2.2.2.2.2.2.2.2.2.2.2.2.2.2.2.2.2.1, s_4.2.2.2.2.2.2.2.2.2.2.2.2.2.2.2.2.2.2.2.2)) H := hP
  have hD : va_D A (w6 aM K (s_4.1, s_4.2.1, s_4.2.2.1, s_4.2.2.2.1, s_4.2.2.2.2.1, s_4.2.2.2.2.2.1, s_4.2.2.2.2.2.2.1, s_4.2.2.2.2.2.2.2.1, s_4.2.2.2.2.2.2.2.2.1, s_4.2.2.2.2.2.2.2.2.2.1, s_4.2.2.2.2.2.2.2.2.2.2.1, s_4.2.2.2.2.2.2.2.2.2.2.2.1, s_4.2.2.2.2.2.2.2.2.2.2.2.2.1, s_4.2.2.2.2.2.2.2.2.2.2.2.2.2.1, s_4.2.2.2.2.2.2.2.2.2.2.2.2.2.2.1, s_4.2.2.2.2.2.2.2.2.2.2.2.2.2.2.2.1, s_4.2.2.2.2.2.2.2.2.2.2.2.2.2.2.2.2.1, (v_3 + (1 : Int32)), s_4.2.2.2.2.2.2.2.2.2.2.2.2.2.2.2.2.2.2.1, s_4.2.2.2.2.2.2.2.2.2.2.2.2.2.2.2.2.2.2.2.1, s_4.2.2.2.2.2.2.2.2.2.2.2.2.2.2.2.2.2.2.2.2)) := hD
  refine lv_aload_n hx hb dX6_turn_52 rfl (lv_at hl 1 rfl) ?_
  refine va_get (D := D) (ci := 6) (v := .int s_4.2.2.2.2.1) (C := RX6) (T := TX6) (N := 21) hx hb hts xu_X6 hown hK hP 0 rfl rfl 4 (by decide) (hts _ xw_511) (fun _ h9 => h9) rfl dX6_turn_53 ?_
  refine lv_if_ne (tgt := 82) hx hb dX6_turn_56 (by decide) (fun c9 => ?_) (fun c9 => ?_)
  · replace h := xi_f c9 h
    obtain rfl := Option.some.inj h
    exact xe_v C hP hD hS dX6_turn_82
  · replace h := xi_t c9 h
    refine lv_aload_n hx hb dX6_turn_59 rfl (lv_at hl 1 rfl) ?_
    refine lv_aload_n hx hb dX6_turn_60 rfl (lv_at hl 1 rfl) ?_
    refine va_get (D := D) (ci := 6) (v := .int s_4.2.2.2.2.2.2.2.2.2.2.2.2.2.2.2.1) (C := RX6) (T := TX6) (N := 21) hx hb hts xu_X6 hown hK hP 0 rfl rfl 15 (by decide) (hts _ xw_522) (fun _ h9 => h9) rfl dX6_turn_61 ?_
    refine va_put (D := D) (ci := 6) (v := .int s_4.2.2.2.2.2.2.2.2.2.2.2.2.2.2.2.1) (ty := .int) (C := RX6) (T := TX6) (N := 21) hx hb hts xu_X6 tyX6 tyX6_ok nmX6 hown hK hP hD hS 0 rfl rfl 16 (by decide) (hts _ xw_523) (fun _ h9 => h9) rfl (by decide +kernel) rfl rfl (Nat.le_of_ble_eq_true rfl) dX6_turn_64 (fun H locs hP hD hS => ?_)
    have hP : va_P D vwCl (w6 aM K (s_4.1, s_4.2.1, s_4.2.2.1, s_4.2.2.2.1, s_4.2.2.2.2.1, s_4.2.2.2.2.2.1, s_4.2.2.2.2.2.2.1, s_4.2.2.2.2.2.2.2.1, s_4.2.2.2.2.2.2.2.2.1, s_4.2.2.2.2.2.2.2.2.2.1, s_4.2.2.2.2.2.2.2.2.2.2.1, s_4.2.2.2.2.2.2.2.2.2.2.2.1, s_4.2.2.2.2.2.2.2.2.2.2.2.2.1, s_4.2.2.2.2.2.2.2.2.2.2.2.2.2.1, s_4.2.2.2.2.2.2.2.2.2.2.2.2.2.2.1, s_4.2.2.2.2.2.2.2.2.2.2.2.2.2.2.2.1, s_4.2.2.2.2.2.2.2.2.2.2.2.2.2.2.2.1, (v_3 + (1 : Int32)), s_4.2.2.2.2.2.2.2.2.2.2.2.2.2.2.2.2.2.2.1, s_4.2.2.2.2.2.2.2.2.2.2.2.2.2.2.2.2.2.2.2.1, s_4.2.2.2.2.2.2.2.2.2.2.2.2.2.2.2.2.2.2.2.2)) H := hP
    have hD : va_D A (w6 aM K (s_4.1, s_4.2.1, s_4.2.2.1, s_4.2.2.2.1, s_4.2.2.2.2.1, s_4.2.2.2.2.2.1, s_4.2.2.2.2.2.2.1, s_4.2.2.2.2.2.2.2.1, s_4.2.2.2.2.2.2.2.2.1, s_4.2.2.2.2.2.2.2.2.2.1, s_4.2.2.2.2.2.2.2.2.2.2.1, s_4.2.2.2.2.2.2.2.2.2.2.2.1, s_4.2.2.2.2.2.2.2.2.2.2.2.2.1, s_4.2.2.2.2.2.2.2.2.2.2.2.2.2.1, s_4.2.2.2.2.2.2.2.2.2.2.2.2.2.2.1, s_4.2.2.2.2.2.2.2.2.2.2.2.2.2.2.2.1, s_4.2.2.2.2.2.2.2.2.2.2.2.2.2.2.2.1, (v_3 + (1 : Int32)), s_4.2.2.2.2.2.2.2.2.2.2.2.2.2.2.2.2.2.2.1, s_4.2.2.2.2.2.2.2.2.2.2.2.2.2.2.2.2.2.2.2.1, s_4.2.2.2.2.2.2.2.2.2.2.2.2.2.2.2.2.2.2.2.2)) := hD
    refine lv_aload_n hx hb dX6_turn_67 rfl (lv_at hl 1 rfl) ?_
    refine lv_iload_n hx hb dX6_turn_68 rfl (lv_at hl 0 rfl) ?_
    refine va_put (D := D) (ci := 6) (v := .int t0) (ty := .int) (C := RX6) (T := TX6) (N := 21) hx hb hts xu_X6 tyX6 tyX6_ok nmX6 hown hK hP hD hS 0 rfl rfl 15 (by decide) (hts _ xw_522) (fun _ h9 => h9) rfl (by decide +kernel) rfl rfl (Nat.le_of_ble_eq_true rfl) dX6_turn_69 (fun H locs hP hD hS => ?_)
    have hP : va_P D vwCl (w6 aM K (s_4.1, s_4.2.1, s_4.2.2.1, s_4.2.2.2.1, s_4.2.2.2.2.1, s_4.2.2.2.2.2.1, s_4.2.2.2.2.2.2.1, s_4.2.2.2.2.2.2.2.1, s_4.2.2.2.2.2.2.2.2.1, s_4.2.2.2.2.2.2.2.2.2.1, s_4.2.2.2.2.2.2.2.2.2.2.1, s_4.2.2.2.2.2.2.2.2.2.2.2.1, s_4.2.2.2.2.2.2.2.2.2.2.2.2.1, s_4.2.2.2.2.2.2.2.2.2.2.2.2.2.1, s_4.2.2.2.2.2.2.2.2.2.2.2.2.2.2.1, t0, s_4.2.2.2.2.2.2.2.2.2.2.2.2.2.2.2.1, (v_3 + (1 : Int32)), s_4.2.2.2.2.2.2.2.2.2.2.2.2.2.2.2.2.2.2.1, s_4.2.2.2.2.2.2.2.2.2.2.2.2.2.2.2.2.2.2.2.1, s_4.2.2.2.2.2.2.2.2.2.2.2.2.2.2.2.2.2.2.2.2)) H := hP
    have hD : va_D A (w6 aM K (s_4.1, s_4.2.1, s_4.2.2.1, s_4.2.2.2.1, s_4.2.2.2.2.1, s_4.2.2.2.2.2.1, s_4.2.2.2.2.2.2.1, s_4.2.2.2.2.2.2.2.1, s_4.2.2.2.2.2.2.2.2.1, s_4.2.2.2.2.2.2.2.2.2.1, s_4.2.2.2.2.2.2.2.2.2.2.1, s_4.2.2.2.2.2.2.2.2.2.2.2.1, s_4.2.2.2.2.2.2.2.2.2.2.2.2.1, s_4.2.2.2.2.2.2.2.2.2.2.2.2.2.1, s_4.2.2.2.2.2.2.2.2.2.2.2.2.2.2.1, t0, s_4.2.2.2.2.2.2.2.2.2.2.2.2.2.2.2.1, (v_3 + (1 : Int32)), s_4.2.2.2.2.2.2.2.2.2.2.2.2.2.2.2.2.2.2.1, s_4.2.2.2.2.2.2.2.2.2.2.2.2.2.2.2.2.2.2.2.1, s_4.2.2.2.2.2.2.2.2.2.2.2.2.2.2.2.2.2.2.2.2)) := hD
    refine lv_aload_n hx hb dX6_turn_72 rfl (lv_at hl 1 rfl) ?_
    refine va_get (D := D) (ci := 6) (v := .ref (aM 5)) (C := RX6) (T := TX6) (N := 21) hx hb hts xu_X6 hown hK hP 0 rfl rfl 10 (by decide) (hts _ xw_517) (fun _ h9 => h9) rfl dX6_turn_73 ?_
    refine lv_iconst (v := (4 : Int32)) hx hb dX6_turn_76 (by decide) ?_
    refine lv_dup2_11 hx hb dX6_turn_77 rfl rfl ?_
    obtain ⟨hi9, h⟩ := xi_g h
    refine va_iald hx hb hK hP 5 0 rfl rfl hi9 dX6_turn_78 ?_
    refine lv_iconst (v := (1 : Int32)) hx hb dX6_turn_79 (by decide) ?_
    refine lv_iadd hx hb dX6_turn_80 ?_
    obtain ⟨hi9, h⟩ := xi_g h
    refine va_iast hx hb hK hP hD hS 5 0 rfl rfl hi9 dX6_turn_81 (fun H locs hP hD hS => ?_)
    have hP : va_P D vwCl (w6 aM K (s_4.1, s_4.2.1, s_4.2.2.1, s_4.2.2.2.1, s_4.2.2.2.2.1, s_4.2.2.2.2.2.1, s_4.2.2.2.2.2.2.1, s_4.2.2.2.2.2.2.2.1, s_4.2.2.2.2.2.2.2.2.1, s_4.2.2.2.2.2.2.2.2.2.1, (upd s_4.2.2.2.2.2.2.2.2.2.2.1 ((4 : Int32)).toNatClampNeg ((s_4.2.2.2.2.2.2.2.2.2.2.1 ((4 : Int32)).toNatClampNeg) + (1 : Int32))), s_4.2.2.2.2.2.2.2.2.2.2.2.1, s_4.2.2.2.2.2.2.2.2.2.2.2.2.1, s_4.2.2.2.2.2.2.2.2.2.2.2.2.2.1, s_4.2.2.2.2.2.2.2.2.2.2.2.2.2.2.1, t0, s_4.2.2.2.2.2.2.2.2.2.2.2.2.2.2.2.1, (v_3 + (1 : Int32)), s_4.2.2.2.2.2.2.2.2.2.2.2.2.2.2.2.2.2.2.1, s_4.2.2.2.2.2.2.2.2.2.2.2.2.2.2.2.2.2.2.2.1, s_4.2.2.2.2.2.2.2.2.2.2.2.2.2.2.2.2.2.2.2.2)) H := hP
    have hD : va_D A (w6 aM K (s_4.1, s_4.2.1, s_4.2.2.1, s_4.2.2.2.1, s_4.2.2.2.2.1, s_4.2.2.2.2.2.1, s_4.2.2.2.2.2.2.1, s_4.2.2.2.2.2.2.2.1, s_4.2.2.2.2.2.2.2.2.1, s_4.2.2.2.2.2.2.2.2.2.1, (upd s_4.2.2.2.2.2.2.2.2.2.2.1 ((4 : Int32)).toNatClampNeg ((s_4.2.2.2.2.2.2.2.2.2.2.1 ((4 : Int32)).toNatClampNeg) + (1 : Int32))), s_4.2.2.2.2.2.2.2.2.2.2.2.1, s_4.2.2.2.2.2.2.2.2.2.2.2.2.1, s_4.2.2.2.2.2.2.2.2.2.2.2.2.2.1, s_4.2.2.2.2.2.2.2.2.2.2.2.2.2.2.1, t0, s_4.2.2.2.2.2.2.2.2.2.2.2.2.2.2.2.1, (v_3 + (1 : Int32)), s_4.2.2.2.2.2.2.2.2.2.2.2.2.2.2.2.2.2.2.1, s_4.2.2.2.2.2.2.2.2.2.2.2.2.2.2.2.2.2.2.2.1, s_4.2.2.2.2.2.2.2.2.2.2.2.2.2.2.2.2.2.2.2.2)) := hD
    obtain rfl := Option.some.inj h
    exact xe_v C hP hD hS dX6_turn_82
set_option maxHeartbeats 4000000 in
set_option maxRecDepth 100000 in
theorem mX6_turn (l : Launch) (D : va_G) (K : Nat → ClassId) (aM : Nat → Nat) (sz : Nat) (M : S6) (r : Unit × (S6)) (h : fX6_turn M = some r) : xMet l yX6_turn cX6_turn 3 none 2 50 D K [.ref (aM 0)] sz (w6 aM K M) (oX6_turn aM K r) := by
  refine xm_of _ (by decide +kernel) (Nat.le_of_ble_eq_true rfl) (fun p e s m args below meth c A C hP hD ls hl => ?_)
  have hl : lv_has ls 3 [(0, .ref (aM 0))] := hl
  have hS : va_S A s.heap s.heap [] := va_S.rf
  obtain ⟨hx, hb, hr, hml, hown, hK, hts, hA, hG, hlk, hte, hnm⟩ := id C
  replace h : xbnd0 (fX6_symbol M (6 : Int32)) (fun v_1 s_2 => (if v_1 = 0 then fX6_turn_40 s_2 s_2.2.2.2.2.2.2.2.2.2.2.2.2.2.2.2.2.1 else (if v_1 = (1 : Int32) then (if s_2.2.2.2.2.2.2.2.2.2.2.2.2.2.2.1 = 0 then none else fX6_turn_40 s_2 ((s_2.2.2.2.2.2.2.2.2.2.2.2.2.2.2.2.1 + (1 : Int32)) - (s_2.2.2.2.2.2.2.2.2.2.2.2.2.2.2.2.1 + (1 : Int32)) / s_2.2.2.2.2.2.2.2.2.2.2.2.2.2.2.1 * s_2.2.2.2.2.2.2.2.2.2.2.2.2.2.2.1)) else fX6_turn_40 s_2 (v_1 - (2 : Int32))))) = some r := h
  refine lv_aload_n hx hb dX6_turn_0 rfl (lv_at hl 0 rfl) ?_
  refine lv_bipush (v := (6 : Int32)) hx hb dX6_turn_1 (by decide) ?_
  obtain ⟨v_1, s_2, hc9, h⟩ := xi_d h
  refine xc_V (As := [.int (6 : Int32)]) (ws' := w6 aM K s_2) C (mX6_symbol l D K aM _ _ _ _ hc9) xgi_X6_106 xd_X6_symbol ⟨Nat.le_of_ble_eq_true rfl, Nat.le_of_ble_eq_true rfl⟩ ⟨Nat.zero_le _, Nat.zero_le _⟩ hl rfl (Nat.le_of_ble_eq_true rfl) dX6_turn_3 hP hD hS 0 6 rfl rfl rfl [0, 1, 2, 3, 4, 5, 6, 7, 8, 9, 10, 11] rfl rfl [(0, w6 aM K s_2)] rfl rfl rfl (List.forall_mem_cons.mpr ⟨Nat.le_of_ble_eq_true rfl, (fun _ h => absurd h List.not_mem_nil)⟩) (fun H locs hP hD hS => ?_)
  refine W.eq (g2 := F0 m 6 ls [.int v_1]) rfl ?_
  refine lv_istore_n (lv' := [(1, .int v_1), (0, .ref (aM 0))]) hx hb dX6_turn_6 rfl hl (by decide) rfl (fun ls hl => ?_)
  refine lv_iload_n hx hb dX6_turn_7 rfl (lv_at hl 0 rfl) ?_
  refine lv_if_ne (tgt := 18) hx hb dX6_turn_8 (by decide) (fun c9 => ?_) (fun c9 => ?_)
  · replace h := xi_f c9 h
    refine lv_iload_n hx hb dX6_turn_18 rfl (lv_at hl 0 rfl) ?_
    refine lv_iconst (v := (1 : Int32)) hx hb dX6_turn_19 (by decide) ?_
    refine lv_icmp_ne (tgt := 37) hx hb dX6_turn_20 (by decide) (fun c9 => ?_) (fun c9 => ?_)
    · replace h := xi_f c9 h
      refine lv_iload_n hx hb dX6_turn_37 rfl (lv_at hl 0 rfl) ?_
      refine lv_iconst (v := (2 : Int32)) hx hb dX6_turn_38 (by decide) ?_
      refine lv_isub hx hb dX6_turn_39 ?_
      exact kX6_turn_40 C _ _ _ h _ _ _ hP hD hS (lv_sub hl [1] rfl)
    · replace h := xi_t c9 h
      refine lv_aload_n hx hb dX6_turn_23 rfl (lv_at hl 1 rfl) ?_
      refine va_get (D := D) (ci := 6) (v := .int s_2.2.2.2.2.2.2.2.2.2.2.2.2.2.2.2.1) (C := RX6) (T := TX6) (N := 21) hx hb hts xu_X6 hown hK hP 0 rfl rfl 15 (by decide) (hts _ xw_522) (fun _ h9 => h9) rfl dX6_turn_24 ?_
      refine lv_iconst (v := (1 : Int32)) hx hb dX6_turn_27 (by decide) ?_
      refine lv_iadd hx hb dX6_turn_28 ?_
      refine lv_aload_n hx hb dX6_turn_29 rfl (lv_at hl 1 rfl) ?_
      refine va_get (D := D) (ci := 6) (v := .int s_2.2.2.2.2.2.2.2.2.2.2.2.2.2.2.1) (C := RX6) (T := TX6) (N := 21) hx hb hts xu_X6 hown hK hP 0 rfl rfl 14 (by decide) (hts _ xw_521) (fun _ h9 => h9) rfl dX6_turn_30 ?_
      obtain ⟨hne, h⟩ := xi_n h
      refine lv_irem hx hb dX6_turn_33 hne ?_
      refine lv_goto (tgt := 40) hx hb dX6_turn_34 (by decide) ?_
      exact kX6_turn_40 C _ _ _ h _ _ _ hP hD hS (lv_sub hl [1] rfl)
  · replace h := xi_t c9 h
    refine lv_aload_n hx hb dX6_turn_11 rfl (lv_at hl 1 rfl) ?_
    refine va_get (D := D) (ci := 6) (v := .int s_2.2.2.2.2.2.2.2.2.2.2.2.2.2.2.2.2.1) (C := RX6) (T := TX6) (N := 21) hx hb hts xu_X6 hown hK hP 0 rfl rfl 16 (by decide) (hts _ xw_523) (fun _ h9 => h9) rfl dX6_turn_12 ?_
    refine lv_goto (tgt := 40) hx hb dX6_turn_15 (by decide) ?_
    exact kX6_turn_40 C _ _ _ h _ _ _ hP hD hS (lv_sub hl [1] rfl)
abbrev oX6_context (aM : Nat → Nat) (K : Nat → ClassId) (q : Int32 × (S6)) : xO := .inr ((some (.int q.1)), w6 aM K q.2)
def fX6_context_46 (M : S6) (x1 : Int32) (t0 : Int32) : Option (Int32 × (S6)) := (if M.2.2.2.2.2.2.2.2.2.2.2.2.2.2.2.1 < 0 ∨ 3 ≤ (M.2.2.2.2.2.2.2.2.2.2.2.2.2.2.2.1).toNatClampNeg then none else (if (M.2.2.2.2.2.2.2.2.2.2.2.2.2.2.2.2.2.2.1 (M.2.2.2.2.2.2.2.2.2.2.2.2.2.2.2.1).toNatClampNeg) = (0 : Int32) then some ((x1 - x1 / (4 : Int32) * (4 : Int32)), M) else (if (M.2.2.2.2.2.2.2.2.2.2.2.2.2.2.2.2.2.2.1 (M.2.2.2.2.2.2.2.2.2.2.2.2.2.2.2.1).toNatClampNeg) = (1 : Int32) then some ((x1 / (8 : Int32)), M) else (if (M.2.2.2.2.2.2.2.2.2.2.2.2.2.2.2.2.2.2.1 (M.2.2.2.2.2.2.2.2.2.2.2.2.2.2.2.1).toNatClampNeg) = (2 : Int32) then (if x1 = 0 then some ((0 : Int32), M) else (if (8 : Int32) ≤ x1 then (if (20 : Int32) ≤ x1 then some ((3 : Int32), M) else some ((2 : Int32), M)) else some ((1 : Int32), M))) else some ((((2 : Int32) * (x1 / (16 : Int32))) + (t0 / (16 : Int32))), M)))))
def fX6_context_22 (M : S6) (t0 : Int32) : Option (Int32 × (S6)) := (if M.2.2.2.2.2.2.2.1 ≤ (1 : Int32) then fX6_context_46 M t0 (0 : Int32) else (if (M.2.2.2.2.2.2.2.1 - (2 : Int32)) < 0 ∨ 400 ≤ ((M.2.2.2.2.2.2.2.1 - (2 : Int32))).toNatClampNeg then none else fX6_context_46 M t0 (M.2.2.2.2.2.2.2.2.1 ((M.2.2.2.2.2.2.2.1 - (2 : Int32))).toNatClampNeg)))
def fX6_context (M : S6) : Option (Int32 × (S6)) := (if M.2.2.2.2.2.2.2.1 ≤ 0 then fX6_context_22 M (0 : Int32) else (if (M.2.2.2.2.2.2.2.1 - (1 : Int32)) < 0 ∨ 400 ≤ ((M.2.2.2.2.2.2.2.1 - (1 : Int32))).toNatClampNeg then none else fX6_context_22 M (M.2.2.2.2.2.2.2.2.1 ((M.2.2.2.2.2.2.2.1 - (1 : Int32))).toNatClampNeg)))
set_option maxHeartbeats 4000000 in
set_option maxRecDepth 100000 in
theorem kX6_context_46 {p : Program} {l : Launch} {e : Env} {s : State} {m : MethodId} {args : Array Value} {below : List Frame} {meth : Method} {c : Code} {D : va_G} {K : Nat → ClassId} {A : Nat → Prop} {aM : Nat → Nat} (C : xC p s m args meth c cX6_context 3 (some .int) yX6_context D K A []) : ∀ (M : S6) (x1 : Int32) (t0 : Int32) (r : Int32 × (S6)), fX6_context_46  M x1 t0 = some r → ∀ (H : Heap) (locs : List Loc) (ls : Array Slot), va_P D vwCl (w6 aM K M) H → va_D A (w6 aM K M) → va_S A s.heap H locs → lv_has ls 3 [(0, .ref (aM 0)), (1, .int x1)] → W p l e (xR 0 0 (oX6_context aM K r)) s m args below meth c H locs 0 0 (xQ below args s D K A (oX6_context aM K r)) (F0 m 46 ls [.int t0]) := by
  obtain ⟨hx, hb, hr, hml, hown, hK, hts, hA, hG, hlk, hte, hnm⟩ := id C
  intro M x1 t0 r h H locs ls hP hD hS hl
  replace h : (if M.2.2.2.2.2.2.2.2.2.2.2.2.2.2.2.1 < 0 ∨ 3 ≤ (M.2.2.2.2.2.2.2.2.2.2.2.2.2.2.2.1).toNatClampNeg then none else (if (M.2.2.2.2.2.2.2.2.2.2.2.2.2.2.2.2.2.2.1 (M.2.2.2.2.2.2.2.2.2.2.2.2.2.2.2.1).toNatClampNeg) = (0 : Int32) then some ((x1 - x1 / (4 : Int32) * (4 : Int32)), M) else (if (M.2.2.2.2.2.2.2.2.2.2.2.2.2.2.2.2.2.2.1 (M.2.2.2.2.2.2.2.2.2.2.2.2.2.2.2.1).toNatClampNeg) = (1 : Int32) then some ((x1 / (8 : Int32)), M) else (if (M.2.2.2.2.2.2.2.2.2.2.2.2.2.2.2.2.2.2.1 (M.2.2.2.2.2.2.2.2.2.2.2.2.2.2.2.1).toNatClampNeg) = (2 : Int32) then (if x1 = 0 then some ((0 : Int32), M) else (if (8 : Int32) ≤ x1 then (if (20 : Int32) ≤ x1 then some ((3 : Int32), M) else some ((2 : Int32), M)) else some ((1 : Int32), M))) else some ((((2 : Int32) * (x1 / (16 : Int32))) + (t0 / (16 : Int32))), M))))) = some r := h
  refine lv_istore_n (lv' := [(2, .int t0), (0, .ref (aM 0)), (1, .int x1)]) hx hb dX6_context_46 rfl hl (by decide) rfl (fun ls hl => ?_)
  refine lv_aload_n hx hb dX6_context_47 rfl (lv_at hl 1 rfl) ?_
  refine va_get (D := D) (ci := 6) (v := .ref (aM 9)) (C := RX6) (T := TX6) (N := 21) hx hb hts xu_X6 hown hK hP 0 rfl rfl 18 (by decide) (hts _ xw_525) (fun _ h9 => h9) rfl dX6_context_48 ?_
  refine lv_aload_n hx hb dX6_context_51 rfl (lv_at hl 1 rfl) ?_
  refine va_get (D := D) (ci := 6) (v := .int M.2.2.2.2.2.2.2.2.2.2.2.2.2.2.2.1) (C := RX6) (T := TX6) (N := 21) hx hb hts xu_X6 hown hK hP 0 rfl rfl 15 (by decide) (hts _ xw_522) (fun _ h9 => h9) rfl dX6_context_52 ?_
  obtain ⟨hi9, h⟩ := xi_g h
  refine va_iald hx hb hK hP 9 0 rfl rfl hi9 dX6_context_55 ?_
  by_cases c9 : (M.2.2.2.2.2.2.2.2.2.2.2.2.2.2.2.2.2.2.1 (M.2.2.2.2.2.2.2.2.2.2.2.2.2.2.2.1).toNatClampNeg) = (0 : Int32)
  · replace h := xi_t c9 h
    refine lv_tableIn (off := 28) (tgt := 84) hx hb dX6_context_56 (by rw [c9]; decide) (by rw [c9]; decide) (by rw [c9]; decide) (by decide) ?_
    refine lv_iload_n hx hb dX6_context_84 rfl (lv_at hl 2 rfl) ?_
    refine lv_iconst (v := (4 : Int32)) hx hb dX6_context_85 (by decide) ?_
    refine lv_irem hx hb dX6_context_86 (by decide) ?_
    obtain rfl := Option.some.inj h
    exact xe_i C hP hD hS dX6_context_87
  replace h := xi_f c9 h
  have c90 := c9
  by_cases c9 : (M.2.2.2.2.2.2.2.2.2.2.2.2.2.2.2.2.2.2.1 (M.2.2.2.2.2.2.2.2.2.2.2.2.2.2.2.1).toNatClampNeg) = (1 : Int32)
  · replace h := xi_t c9 h
    refine lv_tableIn (off := 32) (tgt := 88) hx hb dX6_context_56 (by rw [c9]; decide) (by rw [c9]; decide) (by rw [c9]; decide) (by decide) ?_
    refine lv_iload_n hx hb dX6_context_88 rfl (lv_at hl 2 rfl) ?_
    refine lv_bipush (v := (8 : Int32)) hx hb dX6_context_89 (by decide) ?_
    refine lv_idiv hx hb dX6_context_91 (by decide) ?_
    obtain rfl := Option.some.inj h
    exact xe_i C hP hD hS dX6_context_92
  replace h := xi_f c9 h
  have c91 := c9
  by_cases c9 : (M.2.2.2.2.2.2.2.2.2.2.2.2.2.2.2.2.2.2.1 (M.2.2.2.2.2.2.2.2.2.2.2.2.2.2.2.1).toNatClampNeg) = (2 : Int32)
  · replace h := xi_t c9 h
    refine lv_tableIn (off := 37) (tgt := 93) hx hb dX6_context_56 (by rw [c9]; decide) (by rw [c9]; decide) (by rw [c9]; decide) (by decide) ?_
    refine lv_iload_n hx hb dX6_context_93 rfl (lv_at hl 2 rfl) ?_
    refine lv_if_ne (tgt := 101) hx hb dX6_context_94 (by decide) (fun c9 => ?_) (fun c9 => ?_)
    · replace h := xi_f c9 h
      refine lv_iload_n hx hb dX6_context_101 rfl (lv_at hl 2 rfl) ?_
      refine lv_bipush (v := (8 : Int32)) hx hb dX6_context_102 (by decide) ?_
      refine lv_icmp_ge (tgt := 111) hx hb dX6_context_104 (by decide) (fun c9 => ?_) (fun c9 => ?_)
      · replace h := xi_t c9 h
        refine lv_iload_n hx hb dX6_context_111 rfl (lv_at hl 2 rfl) ?_
        refine lv_bipush (v := (20 : Int32)) hx hb dX6_context_112 (by decide) ?_
        refine lv_icmp_ge (tgt := 121) hx hb dX6_context_114 (by decide) (fun c9 => ?_) (fun c9 => ?_)
        · replace h := xi_t c9 h
          refine lv_iconst (v := (3 : Int32)) hx hb dX6_context_121 (by decide) ?_
          obtain rfl := Option.some.inj h
          exact xe_i C hP hD hS dX6_context_122
        · replace h := xi_f c9 h
          refine lv_iconst (v := (2 : Int32)) hx hb dX6_context_117 (by decide) ?_
          refine lv_goto (tgt := 122) hx hb dX6_context_118 (by decide) ?_
          obtain rfl := Option.some.inj h
          exact xe_i C hP hD hS dX6_context_122
      · replace h := xi_f c9 h
        refine lv_iconst (v := (1 : Int32)) hx hb dX6_context_107 (by decide) ?_
        refine lv_goto (tgt := 122) hx hb dX6_context_108 (by decide) ?_
        obtain rfl := Option.some.inj h
        exact xe_i C hP hD hS dX6_context_122
    · replace h := xi_t c9 h
      refine lv_iconst (v := (0 : Int32)) hx hb dX6_context_97 (by decide) ?_
      refine lv_goto (tgt := 122) hx hb dX6_context_98 (by decide) ?_
      obtain rfl := Option.some.inj h
      exact xe_i C hP hD hS dX6_context_122
  replace h := xi_f c9 h
  have c92 := c9
  refine lv_tableOut (tgt := 123) hx hb dX6_context_56 (xi_sw3 c90 c91 c92) (by decide) ?_
  refine lv_iconst (v := (2 : Int32)) hx hb dX6_context_123 (by decide) ?_
  refine lv_iload_n hx hb dX6_context_124 rfl (lv_at hl 2 rfl) ?_
  refine lv_bipush (v := (16 : Int32)) hx hb dX6_context_125 (by decide) ?_
  refine lv_idiv hx hb dX6_context_127 (by decide) ?_
  refine lv_imul hx hb dX6_context_128 ?_
  refine lv_iload_n hx hb dX6_context_129 rfl (lv_at hl 0 rfl) ?_
  refine lv_bipush (v := (16 : Int32)) hx hb dX6_context_130 (by decide) ?_
  refine lv_idiv hx hb dX6_context_132 (by decide) ?_
  refine lv_iadd hx hb dX6_context_133 ?_
  obtain rfl := Option.some.inj h
  exact xe_i C hP hD hS dX6_context_134
set_option maxHeartbeats 4000000 in
set_option maxRecDepth 100000 in
theorem kX6_context_22 {p : Program} {l : Launch} {e : Env} {s : State} {m : MethodId} {args : Array Value} {below : List Frame} {meth : Method} {c : Code} {D : va_G} {K : Nat → ClassId} {A : Nat → Prop} {aM : Nat → Nat} (C : xC p s m args meth c cX6_context 3 (some .int) yX6_context D K A []) : ∀ (M : S6) (t0 : Int32) (r : Int32 × (S6)), fX6_context_22  M t0 = some r → ∀ (H : Heap) (locs : List Loc) (ls : Array Slot), va_P D vwCl (w6 aM K M) H → va_D A (w6 aM K M) → va_S A s.heap H locs → lv_has ls 3 [(0, .ref (aM 0))] → W p l e (xR 0 0 (oX6_context aM K r)) s m args below meth c H locs 0 0 (xQ below args s D K A (oX6_context aM K r)) (F0 m 22 ls [.int t0]) := by
  obtain ⟨hx, hb, hr, hml, hown, hK, hts, hA, hG, hlk, hte, hnm⟩ := id C
  intro M t0 r h H locs ls hP hD hS hl
  replace h : (if M.2.2.2.2.2.2.2.1 ≤ (1 : Int32) then fX6_context_46 M t0 (0 : Int32) else (if (M.2.2.2.2.2.2.2.1 - (2 : Int32)) < 0 ∨ 400 ≤ ((M.2.2.2.2.2.2.2.1 - (2 : Int32))).toNatClampNeg then none else fX6_context_46 M t0 (M.2.2.2.2.2.2.2.2.1 ((M.2.2.2.2.2.2.2.1 - (2 : Int32))).toNatClampNeg))) = some r := h
  refine lv_istore_n (lv' := [(1, .int t0), (0, .ref (aM 0))]) hx hb dX6_context_22 rfl hl (by decide) rfl (fun ls hl => ?_)
  refine lv_aload_n hx hb dX6_context_23 rfl (lv_at hl 1 rfl) ?_
  refine va_get (D := D) (ci := 6) (v := .int M.2.2.2.2.2.2.2.1) (C := RX6) (T := TX6) (N := 21) hx hb hts xu_X6 hown hK hP 0 rfl rfl 7 (by decide) (hts _ xw_514) (fun _ h9 => h9) rfl dX6_context_24 ?_
  refine lv_iconst (v := (1 : Int32)) hx hb dX6_context_27 (by decide) ?_
  refine lv_icmp_le (tgt := 45) hx hb dX6_context_28 (by decide) (fun c9 => ?_) (fun c9 => ?_)
  · replace h := xi_t c9 h
    refine lv_iconst (v := (0 : Int32)) hx hb dX6_context_45 (by decide) ?_
    exact kX6_context_46 C _ _ _ _ h _ _ _ hP hD hS (lv_sub hl [1, 0] rfl)
  · replace h := xi_f c9 h
    refine lv_aload_n hx hb dX6_context_31 rfl (lv_at hl 1 rfl) ?_
    refine va_get (D := D) (ci := 6) (v := .ref (aM 3)) (C := RX6) (T := TX6) (N := 21) hx hb hts xu_X6 hown hK hP 0 rfl rfl 8 (by decide) (hts _ xw_515) (fun _ h9 => h9) rfl dX6_context_32 ?_
    refine lv_aload_n hx hb dX6_context_35 rfl (lv_at hl 1 rfl) ?_
    refine va_get (D := D) (ci := 6) (v := .int M.2.2.2.2.2.2.2.1) (C := RX6) (T := TX6) (N := 21) hx hb hts xu_X6 hown hK hP 0 rfl rfl 7 (by decide) (hts _ xw_514) (fun _ h9 => h9) rfl dX6_context_36 ?_
    refine lv_iconst (v := (2 : Int32)) hx hb dX6_context_39 (by decide) ?_
    refine lv_isub hx hb dX6_context_40 ?_
    obtain ⟨hi9, h⟩ := xi_g h
    refine va_iald hx hb hK hP 3 0 rfl rfl hi9 dX6_context_41 ?_
    refine lv_goto (tgt := 46) hx hb dX6_context_42 (by decide) ?_
    exact kX6_context_46 C _ _ _ _ h _ _ _ hP hD hS (lv_sub hl [1, 0] rfl)
set_option maxHeartbeats 4000000 in
set_option maxRecDepth 100000 in
theorem mX6_context (l : Launch) (D : va_G) (K : Nat → ClassId) (aM : Nat → Nat) (sz : Nat) (M : S6) (r : Int32 × (S6)) (h : fX6_context M = some r) : xMet l yX6_context cX6_context 3 (some .int) 0 0 D K [.ref (aM 0)] sz (w6 aM K M) (oX6_context aM K r) := by
  refine xm_of _ (by decide +kernel) (Nat.le_of_ble_eq_true rfl) (fun p e s m args below meth c A C hP hD ls hl => ?_)
  have hl : lv_has ls 3 [(0, .ref (aM 0))] := hl
  have hS : va_S A s.heap s.heap [] := va_S.rf
  obtain ⟨hx, hb, hr, hml, hown, hK, hts, hA, hG, hlk, hte, hnm⟩ := id C
  replace h : (if M.2.2.2.2.2.2.2.1 ≤ 0 then fX6_context_22 M (0 : Int32) else (if (M.2.2.2.2.2.2.2.1 - (1 : Int32)) < 0 ∨ 400 ≤ ((M.2.2.2.2.2.2.2.1 - (1 : Int32))).toNatClampNeg then none else fX6_context_22 M (M.2.2.2.2.2.2.2.2.1 ((M.2.2.2.2.2.2.2.1 - (1 : Int32))).toNatClampNeg))) = some r := h
  refine lv_aload_n hx hb dX6_context_0 rfl (lv_at hl 0 rfl) ?_
  refine va_get (D := D) (ci := 6) (v := .int M.2.2.2.2.2.2.2.1) (C := RX6) (T := TX6) (N := 21) hx hb hts xu_X6 hown hK hP 0 rfl rfl 7 (by decide) (hts _ xw_514) (fun _ h9 => h9) rfl dX6_context_1 ?_
  refine lv_if_le (tgt := 21) hx hb dX6_context_4 (by decide) (fun c9 => ?_) (fun c9 => ?_)
  · replace h := xi_t c9 h
    refine lv_iconst (v := (0 : Int32)) hx hb dX6_context_21 (by decide) ?_
    exact kX6_context_22 C _ _ _ h _ _ _ hP hD hS (lv_sub hl [0] rfl)
  · replace h := xi_f c9 h
    refine lv_aload_n hx hb dX6_context_7 rfl (lv_at hl 0 rfl) ?_
    refine va_get (D := D) (ci := 6) (v := .ref (aM 3)) (C := RX6) (T := TX6) (N := 21) hx hb hts xu_X6 hown hK hP 0 rfl rfl 8 (by decide) (hts _ xw_515) (fun _ h9 => h9) rfl dX6_context_8 ?_
    refine lv_aload_n hx hb dX6_context_11 rfl (lv_at hl 0 rfl) ?_
    refine va_get (D := D) (ci := 6) (v := .int M.2.2.2.2.2.2.2.1) (C := RX6) (T := TX6) (N := 21) hx hb hts xu_X6 hown hK hP 0 rfl rfl 7 (by decide) (hts _ xw_514) (fun _ h9 => h9) rfl dX6_context_12 ?_
    refine lv_iconst (v := (1 : Int32)) hx hb dX6_context_15 (by decide) ?_
    refine lv_isub hx hb dX6_context_16 ?_
    obtain ⟨hi9, h⟩ := xi_g h
    refine va_iald hx hb hK hP 3 0 rfl rfl hi9 dX6_context_17 ?_
    refine lv_goto (tgt := 22) hx hb dX6_context_18 (by decide) ?_
    exact kX6_context_22 C _ _ _ h _ _ _ hP hD hS (lv_sub hl [0] rfl)
abbrev oX6_readLetter (aM : Nat → Nat) (K : Nat → ClassId) (q : Unit × (S6)) : xO := .inr (none, w6 aM K q.2)
def fX6_readLetter_80 (M : S6) (t1 : Int32) (t2 : Int32) (t3 : Int32) : Option (Unit × (S6)) := (if t1 < 0 ∨ 9 ≤ (t1).toNatClampNeg then none else some ((), (M.1, M.2.1, M.2.2.1, M.2.2.2.1, M.2.2.2.2.1, M.2.2.2.2.2.1, M.2.2.2.2.2.2.1, M.2.2.2.2.2.2.2.1, M.2.2.2.2.2.2.2.2.1, M.2.2.2.2.2.2.2.2.2.1, (upd M.2.2.2.2.2.2.2.2.2.2.1 (t1).toNatClampNeg (t2 + t3)), M.2.2.2.2.2.2.2.2.2.2.2.1, M.2.2.2.2.2.2.2.2.2.2.2.2.1, M.2.2.2.2.2.2.2.2.2.2.2.2.2.1, M.2.2.2.2.2.2.2.2.2.2.2.2.2.2.1, M.2.2.2.2.2.2.2.2.2.2.2.2.2.2.2.1, M.2.2.2.2.2.2.2.2.2.2.2.2.2.2.2.2.1, M.2.2.2.2.2.2.2.2.2.2.2.2.2.2.2.2.2.1, M.2.2.2.2.2.2.2.2.2.2.2.2.2.2.2.2.2.2.1, M.2.2.2.2.2.2.2.2.2.2.2.2.2.2.2.2.2.2.2.1, M.2.2.2.2.2.2.2.2.2.2.2.2.2.2.2.2.2.2.2.2)))
def fX6_readLetter_19 (M : S6) : Option (Unit × (S6)) := (if M.2.2.2.2.1 = 0 then xbnd0 (fX6_context (M.1, M.2.1, M.2.2.1, M.2.2.2.1, M.2.2.2.2.1, M.2.2.2.2.2.1, M.2.2.2.2.2.2.1, M.2.2.2.2.2.2.2.1, M.2.2.2.2.2.2.2.2.1, M.2.2.2.2.2.2.2.2.2.1, M.2.2.2.2.2.2.2.2.2.2.1, M.2.2.2.2.2.2.2.2.2.2.2.1, M.2.2.2.2.2.2.2.2.2.2.2.2.1, M.2.2.2.2.2.2.2.2.2.2.2.2.2.1, M.2.2.2.2.2.2.2.2.2.2.2.2.2.2.1, M.2.2.2.2.2.2.2.2.2.2.2.2.2.2.2.1, M.2.2.2.2.2.2.2.2.2.2.2.2.2.2.2.2.1, (M.2.2.2.2.2.2.2.2.2.2.2.2.2.2.2.2.2.1 - (1 : Int32)), M.2.2.2.2.2.2.2.2.2.2.2.2.2.2.2.2.2.2.1, M.2.2.2.2.2.2.2.2.2.2.2.2.2.2.2.2.2.2.2.1, M.2.2.2.2.2.2.2.2.2.2.2.2.2.2.2.2.2.2.2.2)) (fun v_3 s_4 => (if (((4 : Int32) * M.2.2.2.2.2.2.2.2.2.2.2.2.2.2.2.1) + v_3) < 0 ∨ 12 ≤ ((((4 : Int32) * M.2.2.2.2.2.2.2.2.2.2.2.2.2.2.2.1) + v_3)).toNatClampNeg then none else xbnd0 (fX6_symbol s_4 (s_4.2.2.2.2.2.2.2.2.2.2.2.2.2.2.2.2.2.2.2.1 ((((4 : Int32) * M.2.2.2.2.2.2.2.2.2.2.2.2.2.2.2.1) + v_3)).toNatClampNeg)) (fun v_5 s_6 => xbnd0 (fX6_add s_6 v_5) (fun v_7 s_8 => (if (1 : Int32) < 0 ∨ 9 ≤ ((1 : Int32)).toNatClampNeg then none else (if s_8.2.2.2.2.1 = 0 then fX6_readLetter_80 s_8 (1 : Int32) (s_8.2.2.2.2.2.2.2.2.2.2.1 ((1 : Int32)).toNatClampNeg) (1 : Int32) else fX6_readLetter_80 s_8 (1 : Int32) (s_8.2.2.2.2.2.2.2.2.2.2.1 ((1 : Int32)).toNatClampNeg) (0 : Int32))))))) else some ((), M))
def fX6_readLetter (M : S6) : Option (Unit × (S6)) := (if M.2.2.2.2.2.2.2.2.2.2.2.2.2.2.1 ≤ (1 : Int32) then fX6_readLetter_19 M else (if M.2.2.2.2.2.2.2.2.2.2.2.2.2.2.2.2.2.1 = 0 then xbnd0 (fX6_turn M) (fun v_1 s_2 => fX6_readLetter_19 s_2) else fX6_readLetter_19 M))
set_option maxHeartbeats 4000000 in
set_option maxRecDepth 100000 in
theorem kX6_readLetter_80 {p : Program} {l : Launch} {e : Env} {s : State} {m : MethodId} {args : Array Value} {below : List Frame} {meth : Method} {c : Code} {D : va_G} {K : Nat → ClassId} {A : Nat → Prop} {aM : Nat → Nat} (C : xC p s m args meth c cX6_readLetter 1 none yX6_readLetter D K A []) : ∀ (M : S6) (t1 : Int32) (t2 : Int32) (t3 : Int32) (r : Unit × (S6)), fX6_readLetter_80  M t1 t2 t3 = some r → ∀ (H : Heap) (locs : List Loc) (ls : Array Slot), va_P D vwCl (w6 aM K M) H → va_D A (w6 aM K M) → va_S A s.heap H locs → lv_has ls 1 [] → W p l e (xR 3 72 (oX6_readLetter aM K r)) s m args below meth c H locs 0 0 (xQ below args s D K A (oX6_readLetter aM K r)) (F0 m 80 ls [.int t3, .int t2, .int t1, .ref (aM 5)]) := by
  obtain ⟨hx, hb, hr, hml, hown, hK, hts, hA, hG, hlk, hte, hnm⟩ := id C
  intro M t1 t2 t3 r h H locs ls hP hD hS hl
  replace h : (if t1 < 0 ∨ 9 ≤ (t1).toNatClampNeg then none else some ((), (M.1, M.2.1, M.2.2.1, M.2.2.2.1, M.2.2.2.2.1, M.2.2.2.2.2.1, M.2.2.2.2.2.2.1, M.2.2.2.2.2.2.2.1, M.2.2.2.2.2.2.2.2.1, M.2.2.2.2.2.2.2.2.2.1, (upd M.2.2.2.2.2.2.2.2.2.2.1 (t1).toNatClampNeg (t2 + t3)), M.2.2.2.2.2.2.2.2.2.2.2.1, M.2.2.2.2.2.2.2.2.2.2.2.2.1, M.2.2.2.2.2.2.2.2.2.2.2.2.2.1, M.2.2.2.2.2.2.2.2.2.2.2.2.2.2.1, M.2.2.2.2.2.2.2.2.2.2.2.2.2.2.2.1, M.2.2.2.2.2.2.2.2.2.2.2.2.2.2.2.2.1, M.2.2.2.2.2.2.2.2.2.2.2.2.2.2.2.2.2.1, M.2.2.2.2.2.2.2.2.2.2.2.2.2.2.2.2.2.2.1, M.2.2.2.2.2.2.2.2.2.2.2.2.2.2.2.2.2.2.2.1, M.2.2.2.2.2.2.2.2.2.2.2.2.2.2.2.2.2.2.2.2))) = some r := h
  refine lv_iadd hx hb dX6_readLetter_80 ?_
  obtain ⟨hi9, h⟩ := xi_g h
  refine va_iast hx hb hK hP hD hS 5 0 rfl rfl hi9 dX6_readLetter_81 (fun H locs hP hD hS => ?_)
  have hP : va_P D vwCl (w6 aM K (M.1, M.2.1, M.2.2.1, M.2.2.2.1, M.2.2.2.2.1, M.2.2.2.2.2.1, M.2.2.2.2.2.2.1, M.2.2.2.2.2.2.2.1, M.2.2.2.2.2.2.2.2.1, M.2.2.2.2.2.2.2.2.2.1, (upd M.2.2.2.2.2.2.2.2.2.2.1 (t1).toNatClampNeg (t2 + t3)), M.2.2.2.2.2.2.2.2.2.2.2.1, M.2.2.2.2.2.2.2.2.2.2.2.2.1, M.2.2.2.2.2.2.2.2.2.2.2.2.2.1, M.2.2.2.2.2.2.2.2.2.2.2.2.2.2.1, M.2.2.2.2.2.2.2.2.2.2.2.2.2.2.2.1, M.2.2.2.2.2.2.2.2.2.2.2.2.2.2.2.2.1, M.2.2.2.2.2.2.2.2.2.2.2.2.2.2.2.2.2.1, M.2.2.2.2.2.2.2.2.2.2.2.2.2.2.2.2.2.2.1, M.2.2.2.2.2.2.2.2.2.2.2.2.2.2.2.2.2.2.2.1, M.2.2.2.2.2.2.2.2.2.2.2.2.2.2.2.2.2.2.2.2)) H := hP
  have hD : va_D A (w6 aM K (M.1, M.2.1, M.2.2.1, M.2.2.2.1, M.2.2.2.2.1, M.2.2.2.2.2.1, M.2.2.2.2.2.2.1, M.2.2.2.2.2.2.2.1, M.2.2.2.2.2.2.2.2.1, M.2.2.2.2.2.2.2.2.2.1, (upd M.2.2.2.2.2.2.2.2.2.2.1 (t1).toNatClampNeg (t2 + t3)), M.2.2.2.2.2.2.2.2.2.2.2.1, M.2.2.2.2.2.2.2.2.2.2.2.2.1, M.2.2.2.2.2.2.2.2.2.2.2.2.2.1, M.2.2.2.2.2.2.2.2.2.2.2.2.2.2.1, M.2.2.2.2.2.2.2.2.2.2.2.2.2.2.2.1, M.2.2.2.2.2.2.2.2.2.2.2.2.2.2.2.2.1, M.2.2.2.2.2.2.2.2.2.2.2.2.2.2.2.2.2.1, M.2.2.2.2.2.2.2.2.2.2.2.2.2.2.2.2.2.2.1, M.2.2.2.2.2.2.2.2.2.2.2.2.2.2.2.2.2.2.2.1, M.2.2.2.2.2.2.2.2.2.2.2.2.2.2.2.2.2.2.2.2)) := hD
  obtain rfl := Option.some.inj h
  exact xe_v C hP hD hS dX6_readLetter_82
set_option maxHeartbeats 4000000 in
set_option maxRecDepth 100000 in
theorem kX6_readLetter_19 {p : Program} {l : Launch} {e : Env} {s : State} {m : MethodId} {args : Array Value} {below : List Frame} {meth : Method} {c : Code} {D : va_G} {K : Nat → ClassId} {A : Nat → Prop} {aM : Nat → Nat} (C : xC p s m args meth c cX6_readLetter 1 none yX6_readLetter D K A []) : ∀ (M : S6) (r : Unit × (S6)), fX6_readLetter_19  M = some r → ∀ (H : Heap) (locs : List Loc) (ls : Array Slot), va_P D vwCl (w6 aM K M) H → va_D A (w6 aM K M) → va_S A s.heap H locs → lv_has ls 1 [(0, .ref (aM 0))] → W p l e (xR 3 72 (oX6_readLetter aM K r)) s m args below meth c H locs 0 0 (xQ below args s D K A (oX6_readLetter aM K r)) (F0 m 19 ls []) := by
  obtain ⟨hx, hb, hr, hml, hown, hK, hts, hA, hG, hlk, hte, hnm⟩ := id C
  intro M r h H locs ls hP hD hS hl
  replace h : (if M.2.2.2.2.1 = 0 then xbnd0 (fX6_context (M.1, M.2.1, M.2.2.1, M.2.2.2.1, M.2.2.2.2.1, M.2.2.2.2.2.1, M.2.2.2.2.2.2.1, M.2.2.2.2.2.2.2.1, M.2.2.2.2.2.2.2.2.1, M.2.2.2.2.2.2.2.2.2.1, M.2.2.2.2.2.2.2.2.2.2.1, M.2.2.2.2.2.2.2.2.2.2.2.1, M.2.2.2.2.2.2.2.2.2.2.2.2.1, M.2.2.2.2.2.2.2.2.2.2.2.2.2.1, M.2.2.2.2.2.2.2.2.2.2.2.2.2.2.1, M.2.2.2.2.2.2.2.2.2.2.2.2.2.2.2.1, M.2.2.2.2.2.2.2.2.2.2.2.2.2.2.2.2.1, (M.2.2.2.2.2.2.2.2.2.2.2.2.2.2.2.2.2.1 - (1 : Int32)), M.2.2.2.2.2.2.2.2.2.2.2.2.2.2.2.2.2.2.1, M.2.2.2.2.2.2.2.2.2.2.2.2.2.2.2.2.2.2.2.1, M.2.2.2.2.2.2.2.2.2.2.2.2.2.2.2.2.2.2.2.2)) (fun v_3 s_4 => (if (((4 : Int32) * M.2.2.2.2.2.2.2.2.2.2.2.2.2.2.2.1) + v_3) < 0 ∨ 12 ≤ ((((4 : Int32) * M.2.2.2.2.2.2.2.2.2.2.2.2.2.2.2.1) + v_3)).toNatClampNeg then none else xbnd0 (fX6_symbol s_4 (s_4.2.2.2.2.2.2.2.2.2.2.2.2.2.2.2.2.2.2.2.1 ((((4 : Int32) * M.2.2.2.2.2.2.2.2.2.2.2.2.2.2.2.1) + v_3)).toNatClampNeg)) (fun v_5 s_6 => xbnd0 (fX6_add s_6 v_5) (fun v_7 s_8 => (if (1 : Int32) < 0 ∨ 9 ≤ ((1 : Int32)).toNatClampNeg then none else (if s_8.2.2.2.2.1 = 0 then fX6_readLetter_80 s_8 (1 : Int32) (s_8.2.2.2.2.2.2.2.2.2.2.1 ((1 : Int32)).toNatClampNeg) (1 : Int32) else fX6_readLetter_80 s_8 (1 : Int32) (s_8.2.2.2.2.2.2.2.2.2.2.1 ((1 : Int32)).toNatClampNeg) (0 : Int32))))))) else some ((), M)) = some r := h
  refine lv_aload_n hx hb dX6_readLetter_19 rfl (lv_at hl 0 rfl) ?_
  refine va_get (D := D) (ci := 6) (v := .int M.2.2.2.2.1) (C := RX6) (T := TX6) (N := 21) hx hb hts xu_X6 hown hK hP 0 rfl rfl 4 (by decide) (hts _ xw_511) (fun _ h9 => h9) rfl dX6_readLetter_20 ?_
  refine lv_if_eq (tgt := 27) hx hb dX6_readLetter_23 (by decide) (fun c9 => ?_) (fun c9 => ?_)
  · replace h := xi_t c9 h
    refine lv_aload_n hx hb dX6_readLetter_27 rfl (lv_at hl 0 rfl) ?_
    refine lv_dup hx hb dX6_readLetter_28 rfl ?_
    refine va_get (D := D) (ci := 6) (v := .int M.2.2.2.2.2.2.2.2.2.2.2.2.2.2.2.2.2.1) (C := RX6) (T := TX6) (N := 21) hx hb hts xu_X6 hown hK hP 0 rfl rfl 17 (by decide) (hts _ xw_524) (fun _ h9 => h9) rfl dX6_readLetter_29 ?_
    refine lv_iconst (v := (1 : Int32)) hx hb dX6_readLetter_32 (by decide) ?_
    refine lv_isub hx hb dX6_readLetter_33 ?_
    refine va_put (D := D) (ci := 6) (v := .int (M.2.2.2.2.2.2.2.2.2.2.2.2.2.2.2.2.2.1 - (1 : Int32))) (ty := .int) (C := RX6) (T := TX6) (N := 21) hx hb hts xu_X6 tyX6 tyX6_ok nmX6 hown hK hP hD hS 0 rfl rfl 17 (by decide) (hts _ xw_524) (fun _ h9 => h9) rfl (by decide +kernel) rfl rfl (Nat.le_of_ble_eq_true rfl) dX6_readLetter_34 (fun H locs hP hD hS => ?_)
    have hP : va_P D vwCl (w6 aM K (M.1, M.2.1, M.2.2.1, M.2.2.2.1, M.2.2.2.2.1, M.2.2.2.2.2.1, M.2.2.2.2.2.2.1, M.2.2.2.2.2.2.2.1, M.2.2.2.2.2.2.2.2.1, M.2.2.2.2.2.2.2.2.2.1, M.2.2.2.2.2.2.2.2.2.2.1, M.2.2.2.2.2.2.2.2.2.2.2.1, M.2.2.2.2.2.2.2.2.2.2.2.2.1, M.2.2.2.2.2.2.2.2.2.2.2.2.2.1, M.2.2.2.2.2.2.2.2.2.2.2.2.2.2.1, M.2.2.2.2.2.2.2.2.2.2.2.2.2.2.2.1, M.2.2.2.2.2.2.2.2.2.2.2.2.2.2.2.2.1, (M.2.2.2.2.2.2.2.2.2.2.2.2.2.2.2.2.2.1 - (1 : Int32)), M.2.2.2.2.2.2.2.2.2.2.2.2.2.2.2.2.2.2.1, M.2.2.2.2.2.2.2.2.2.2.2.2.2.2.2.2.2.2.2.1, M.2.2.2.2.2.2.2.2.2.2.2.2.2.2.2.2.2.2.2.2)) H := hP
    have hD : va_D A (w6 aM K (M.1, M.2.1, M.2.2.1, M.2.2.2.1, M.2.2.2.2.1, M.2.2.2.2.2.1, M.2.2.2.2.2.2.1, M.2.2.2.2.2.2.2.1, M.2.2.2.2.2.2.2.2.1, M.2.2.2.2.2.2.2.2.2.1, M.2.2.2.2.2.2.2.2.2.2.1, M.2.2.2.2.2.2.2.2.2.2.2.1, M.2.2.2.2.2.2.2.2.2.2.2.2.1, M.2.2.2.2.2.2.2.2.2.2.2.2.2.1, M.2.2.2.2.2.2.2.2.2.2.2.2.2.2.1, M.2.2.2.2.2.2.2.2.2.2.2.2.2.2.2.1, M.2.2.2.2.2.2.2.2.2.2.2.2.2.2.2.2.1, (M.2.2.2.2.2.2.2.2.2.2.2.2.2.2.2.2.2.1 - (1 : Int32)), M.2.2.2.2.2.2.2.2.2.2.2.2.2.2.2.2.2.2.1, M.2.2.2.2.2.2.2.2.2.2.2.2.2.2.2.2.2.2.2.1, M.2.2.2.2.2.2.2.2.2.2.2.2.2.2.2.2.2.2.2.2)) := hD
    refine lv_aload_n hx hb dX6_readLetter_37 rfl (lv_at hl 0 rfl) ?_
    refine lv_aload_n hx hb dX6_readLetter_38 rfl (lv_at hl 0 rfl) ?_
    refine lv_aload_n hx hb dX6_readLetter_39 rfl (lv_at hl 0 rfl) ?_
    refine va_get (D := D) (ci := 6) (v := .ref (aM 10)) (C := RX6) (T := TX6) (N := 21) hx hb hts xu_X6 hown hK hP 0 rfl rfl 19 (by decide) (hts _ xw_526) (fun _ h9 => h9) rfl dX6_readLetter_40 ?_
    refine lv_iconst (v := (4 : Int32)) hx hb dX6_readLetter_43 (by decide) ?_
    refine lv_aload_n hx hb dX6_readLetter_44 rfl (lv_at hl 0 rfl) ?_
    refine va_get (D := D) (ci := 6) (v := .int M.2.2.2.2.2.2.2.2.2.2.2.2.2.2.2.1) (C := RX6) (T := TX6) (N := 21) hx hb hts xu_X6 hown hK hP 0 rfl rfl 15 (by decide) (hts _ xw_522) (fun _ h9 => h9) rfl dX6_readLetter_45 ?_
    refine lv_imul hx hb dX6_readLetter_48 ?_
    refine lv_aload_n hx hb dX6_readLetter_49 rfl (lv_at hl 0 rfl) ?_
    obtain ⟨v_3, s_4, hc9, h⟩ := xi_d h
    refine xc_V (As := []) (ws' := w6 aM K s_4) C (mX6_context l D K aM _ _ _ hc9) xgi_X6_112 xd_X6_context ⟨Nat.le_of_ble_eq_true rfl, Nat.le_of_ble_eq_true rfl⟩ ⟨Nat.zero_le _, Nat.zero_le _⟩ hl rfl (Nat.le_of_ble_eq_true rfl) dX6_readLetter_50 hP hD hS 0 6 rfl rfl rfl [0, 1, 2, 3, 4, 5, 6, 7, 8, 9, 10, 11] rfl rfl [(0, w6 aM K s_4)] rfl rfl rfl (List.forall_mem_cons.mpr ⟨Nat.le_of_ble_eq_true rfl, (fun _ h => absurd h List.not_mem_nil)⟩) (fun H locs hP hD hS => ?_)
    refine W.eq (g2 := F0 m 53 ls [.int v_3, .int ((4 : Int32) * M.2.2.2.2.2.2.2.2.2.2.2.2.2.2.2.1), .ref (aM 10), .ref (aM 0), .ref (aM 0)]) rfl ?_
    refine lv_iadd hx hb dX6_readLetter_53 ?_
    obtain ⟨hi9, h⟩ := xi_g h
    refine va_iald hx hb hK hP 10 0 rfl rfl hi9 dX6_readLetter_54 ?_
    obtain ⟨v_5, s_6, hc9, h⟩ := xi_d h
    refine xc_V (As := [.int (s_4.2.2.2.2.2.2.2.2.2.2.2.2.2.2.2.2.2.2.2.1 ((((4 : Int32) * M.2.2.2.2.2.2.2.2.2.2.2.2.2.2.2.1) + v_3)).toNatClampNeg)]) (ws' := w6 aM K s_6) C (mX6_symbol l D K aM _ _ _ _ hc9) xgi_X6_106 xd_X6_symbol ⟨Nat.le_of_ble_eq_true rfl, Nat.le_of_ble_eq_true rfl⟩ ⟨Nat.zero_le _, Nat.zero_le _⟩ hl rfl (Nat.le_of_ble_eq_true rfl) dX6_readLetter_55 hP hD hS 0 6 rfl rfl rfl [0, 1, 2, 3, 4, 5, 6, 7, 8, 9, 10, 11] rfl rfl [(0, w6 aM K s_6)] rfl rfl rfl (List.forall_mem_cons.mpr ⟨Nat.le_of_ble_eq_true rfl, (fun _ h => absurd h List.not_mem_nil)⟩) (fun H locs hP hD hS => ?_)
    refine W.eq (g2 := F0 m 58 ls [.int v_5, .ref (aM 0)]) rfl ?_
    obtain ⟨v_7, s_8, hc9, h⟩ := xi_d h
    refine xc_V (As := [.int v_5]) (ws' := w6 aM K s_8) C (mX6_add l D K aM _ _ _ _ hc9) xgi_X6_81 xd_X6_add ⟨Nat.le_of_ble_eq_true rfl, Nat.le_of_ble_eq_true rfl⟩ ⟨Nat.zero_le _, Nat.zero_le _⟩ hl rfl (Nat.le_of_ble_eq_true rfl) dX6_readLetter_58 hP hD hS 0 6 rfl rfl rfl [0, 1, 2, 3, 4, 5, 6, 7, 8, 9, 10, 11] rfl rfl [(0, w6 aM K s_8)] rfl rfl rfl (List.forall_mem_cons.mpr ⟨Nat.le_of_ble_eq_true rfl, (fun _ h => absurd h List.not_mem_nil)⟩) (fun H locs hP hD hS => ?_)
    refine W.eq (g2 := F0 m 61 ls []) rfl ?_
    refine lv_aload_n hx hb dX6_readLetter_61 rfl (lv_at hl 0 rfl) ?_
    refine va_get (D := D) (ci := 6) (v := .ref (aM 5)) (C := RX6) (T := TX6) (N := 21) hx hb hts xu_X6 hown hK hP 0 rfl rfl 10 (by decide) (hts _ xw_517) (fun _ h9 => h9) rfl dX6_readLetter_62 ?_
    refine lv_iconst (v := (1 : Int32)) hx hb dX6_readLetter_65 (by decide) ?_
    refine lv_dup2_11 hx hb dX6_readLetter_66 rfl rfl ?_
    obtain ⟨hi9, h⟩ := xi_g h
    refine va_iald hx hb hK hP 5 0 rfl rfl hi9 dX6_readLetter_67 ?_
    refine lv_aload_n hx hb dX6_readLetter_68 rfl (lv_at hl 0 rfl) ?_
    refine va_get (D := D) (ci := 6) (v := .int s_8.2.2.2.2.1) (C := RX6) (T := TX6) (N := 21) hx hb hts xu_X6 hown hK hP 0 rfl rfl 4 (by decide) (hts _ xw_511) (fun _ h9 => h9) rfl dX6_readLetter_69 ?_
    refine lv_if_eq (tgt := 79) hx hb dX6_readLetter_72 (by decide) (fun c9 => ?_) (fun c9 => ?_)
    · replace h := xi_t c9 h
      refine lv_iconst (v := (1 : Int32)) hx hb dX6_readLetter_79 (by decide) ?_
      exact kX6_readLetter_80 C _ _ _ _ _ h _ _ _ hP hD hS (lv_sub hl [] rfl)
    · replace h := xi_f c9 h
      refine lv_iconst (v := (0 : Int32)) hx hb dX6_readLetter_75 (by decide) ?_
      refine lv_goto (tgt := 80) hx hb dX6_readLetter_76 (by decide) ?_
      exact kX6_readLetter_80 C _ _ _ _ _ h _ _ _ hP hD hS (lv_sub hl [] rfl)
  · replace h := xi_f c9 h
    obtain rfl := Option.some.inj h
    exact xe_v C hP hD hS dX6_readLetter_26
set_option maxHeartbeats 4000000 in
set_option maxRecDepth 100000 in
theorem mX6_readLetter (l : Launch) (D : va_G) (K : Nat → ClassId) (aM : Nat → Nat) (sz : Nat) (M : S6) (r : Unit × (S6)) (h : fX6_readLetter M = some r) : xMet l yX6_readLetter cX6_readLetter 1 none 3 72 D K [.ref (aM 0)] sz (w6 aM K M) (oX6_readLetter aM K r) := by
  refine xm_of _ (by decide +kernel) (Nat.le_of_ble_eq_true rfl) (fun p e s m args below meth c A C hP hD ls hl => ?_)
  have hl : lv_has ls 1 [(0, .ref (aM 0))] := hl
  have hS : va_S A s.heap s.heap [] := va_S.rf
  obtain ⟨hx, hb, hr, hml, hown, hK, hts, hA, hG, hlk, hte, hnm⟩ := id C
  replace h : (if M.2.2.2.2.2.2.2.2.2.2.2.2.2.2.1 ≤ (1 : Int32) then fX6_readLetter_19 M else (if M.2.2.2.2.2.2.2.2.2.2.2.2.2.2.2.2.2.1 = 0 then xbnd0 (fX6_turn M) (fun v_1 s_2 => fX6_readLetter_19 s_2) else fX6_readLetter_19 M)) = some r := h
  refine lv_aload_n hx hb dX6_readLetter_0 rfl (lv_at hl 0 rfl) ?_
  refine va_get (D := D) (ci := 6) (v := .int M.2.2.2.2.2.2.2.2.2.2.2.2.2.2.1) (C := RX6) (T := TX6) (N := 21) hx hb hts xu_X6 hown hK hP 0 rfl rfl 14 (by decide) (hts _ xw_521) (fun _ h9 => h9) rfl dX6_readLetter_1 ?_
  refine lv_iconst (v := (1 : Int32)) hx hb dX6_readLetter_4 (by decide) ?_
  refine lv_icmp_le (tgt := 19) hx hb dX6_readLetter_5 (by decide) (fun c9 => ?_) (fun c9 => ?_)
  · replace h := xi_t c9 h
    exact kX6_readLetter_19 C _ _ h _ _ _ hP hD hS (lv_sub hl [0] rfl)
  · replace h := xi_f c9 h
    refine lv_aload_n hx hb dX6_readLetter_8 rfl (lv_at hl 0 rfl) ?_
    refine va_get (D := D) (ci := 6) (v := .int M.2.2.2.2.2.2.2.2.2.2.2.2.2.2.2.2.2.1) (C := RX6) (T := TX6) (N := 21) hx hb hts xu_X6 hown hK hP 0 rfl rfl 17 (by decide) (hts _ xw_524) (fun _ h9 => h9) rfl dX6_readLetter_9 ?_
    refine lv_if_ne (tgt := 19) hx hb dX6_readLetter_12 (by decide) (fun c9 => ?_) (fun c9 => ?_)
    · replace h := xi_f c9 h
      exact kX6_readLetter_19 C _ _ h _ _ _ hP hD hS (lv_sub hl [0] rfl)
    · replace h := xi_t c9 h
      refine lv_aload_n hx hb dX6_readLetter_15 rfl (lv_at hl 0 rfl) ?_
      obtain ⟨v_1, s_2, hc9, h⟩ := xi_d h
      refine xc_V (As := []) (ws' := w6 aM K s_2) C (mX6_turn l D K aM _ _ _ hc9) xgi_X6_109 xd_X6_turn ⟨Nat.le_of_ble_eq_true rfl, Nat.le_of_ble_eq_true rfl⟩ ⟨Nat.zero_le _, Nat.zero_le _⟩ hl rfl (Nat.le_of_ble_eq_true rfl) dX6_readLetter_16 hP hD hS 0 6 rfl rfl rfl [0, 1, 2, 3, 4, 5, 6, 7, 8, 9, 10, 11] rfl rfl [(0, w6 aM K s_2)] rfl rfl rfl (List.forall_mem_cons.mpr ⟨Nat.le_of_ble_eq_true rfl, (fun _ h => absurd h List.not_mem_nil)⟩) (fun H locs hP hD hS => ?_)
      refine W.eq (g2 := F0 m 19 ls []) rfl ?_
      exact kX6_readLetter_19 C _ _ h _ _ _ hP hD hS (lv_sub hl [0] rfl)
