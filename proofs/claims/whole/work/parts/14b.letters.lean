abbrev oX2_replacePlaces (aL : Nat → Nat) (K : Nat → ClassId) (q : Unit × (S2)) : xO := .inr (none, w2 aL K q.2)
def fX2_replacePlaces_45 (rec22 : S2 → Int32 → Int32 → Option (Unit × (S2))) : Nat → S2 → Int32 → Int32 → Int32 → Int32 → Option (Unit × (S2))
  | 0 => fun _ _ _ _ _ => none
  | fu + 1 => fun L x1 x2 x4 x5 => (if x5 ≤ 0 then (if (0 : Int32) < 0 ∨ 4 ≤ ((0 : Int32)).toNatClampNeg then none else (if x2 < 0 ∨ 12 ≤ (x2).toNatClampNeg then none else rec22 (L.1, L.2.1, L.2.2.1, L.2.2.2.1, L.2.2.2.2.1, L.2.2.2.2.2.1, (upd L.2.2.2.2.2.2.1 (x2).toNatClampNeg x4), (upd L.2.2.2.2.2.2.2.1 ((0 : Int32)).toNatClampNeg x4), L.2.2.2.2.2.2.2.2.1, L.2.2.2.2.2.2.2.2.2.1, L.2.2.2.2.2.2.2.2.2.2.1, L.2.2.2.2.2.2.2.2.2.2.2) x1 (x2 + (1 : Int32)))) else (if (x5 - (1 : Int32)) < 0 ∨ 4 ≤ ((x5 - (1 : Int32))).toNatClampNeg then none else (if x5 < 0 ∨ 4 ≤ (x5).toNatClampNeg then none else fX2_replacePlaces_45 rec22 fu (L.1, L.2.1, L.2.2.1, L.2.2.2.1, L.2.2.2.2.1, L.2.2.2.2.2.1, L.2.2.2.2.2.2.1, (upd L.2.2.2.2.2.2.2.1 (x5).toNatClampNeg (L.2.2.2.2.2.2.2.1 ((x5 - (1 : Int32))).toNatClampNeg)), L.2.2.2.2.2.2.2.2.1, L.2.2.2.2.2.2.2.2.2.1, L.2.2.2.2.2.2.2.2.2.2.1, L.2.2.2.2.2.2.2.2.2.2.2) x1 x2 x4 (x5 + (-1 : Int32)))))
def fX2_replacePlaces_22 : Nat → S2 → Int32 → Int32 → Option (Unit × (S2))
  | 0 => fun _ _ _ => none
  | fu + 1 => fun L x1 x2 => (if x1 ≤ x2 then some ((), L) else (if x2 < 0 ∨ 12 ≤ (x2).toNatClampNeg then none else (if (L.2.2.2.2.2.2.1 (x2).toNatClampNeg) < 0 ∨ 4 ≤ ((L.2.2.2.2.2.2.1 (x2).toNatClampNeg)).toNatClampNeg then none else fX2_replacePlaces_45 (fX2_replacePlaces_22 fu) xF L x1 x2 (L.2.2.2.2.2.2.2.1 ((L.2.2.2.2.2.2.1 (x2).toNatClampNeg)).toNatClampNeg) (L.2.2.2.2.2.2.1 (x2).toNatClampNeg))))
def fX2_replacePlaces_2 : Nat → S2 → Int32 → Int32 → Option (Unit × (S2))
  | 0 => fun _ _ _ => none
  | fu + 1 => fun L x1 x2 => (if (4 : Int32) ≤ x2 then fX2_replacePlaces_22 xF L x1 (0 : Int32) else (if x2 < 0 ∨ 4 ≤ (x2).toNatClampNeg then none else fX2_replacePlaces_2 fu (L.1, L.2.1, L.2.2.1, L.2.2.2.1, L.2.2.2.2.1, L.2.2.2.2.2.1, L.2.2.2.2.2.2.1, (upd L.2.2.2.2.2.2.2.1 (x2).toNatClampNeg x2), L.2.2.2.2.2.2.2.2.1, L.2.2.2.2.2.2.2.2.2.1, L.2.2.2.2.2.2.2.2.2.2.1, L.2.2.2.2.2.2.2.2.2.2.2) x1 (x2 + (1 : Int32))))
def fX2_replacePlaces (L : S2) (p1 : Int32) : Option (Unit × (S2)) := fX2_replacePlaces_2 xF L p1 (0 : Int32)
set_option maxHeartbeats 4000000 in
set_option maxRecDepth 100000 in
theorem kX2_replacePlaces_45 {p : Program} {l : Launch} {e : Env} {s : State} {m : MethodId} {args : Array Value} {below : List Frame} {meth : Method} {c : Code} {D : va_G} {K : Nat → ClassId} {A : Nat → Prop} {aL : Nat → Nat} (C : xC p s m args meth c cX2_replacePlaces 6 none yX2_replacePlaces D K A []) (rec22 : S2 → Int32 → Int32 → Option (Unit × (S2))) (hrec22 : ∀ (L : S2) (x1 : Int32) (x2 : Int32) (r : Unit × (S2)), rec22 L x1 x2 = some r → ∀ (H : Heap) (locs : List Loc) (ls : Array Slot), va_P D vwCl (w2 aL K L) H → va_D A (w2 aL K L) → va_S A s.heap H locs → lv_has ls 6 [(0, .ref (aL 0)), (1, .int x1), (2, .int x2)] → W p l e (xR 0 0 (oX2_replacePlaces aL K r)) s m args below meth c H locs 0 0 (xQ below args s D K A (oX2_replacePlaces aL K r)) (F0 m 22 ls [])) : ∀ fu : Nat, ∀ (L : S2) (x1 : Int32) (x2 : Int32) (x4 : Int32) (x5 : Int32) (r : Unit × (S2)), fX2_replacePlaces_45  rec22 fu L x1 x2 x4 x5 = some r → ∀ (H : Heap) (locs : List Loc) (ls : Array Slot), va_P D vwCl (w2 aL K L) H → va_D A (w2 aL K L) → va_S A s.heap H locs → lv_has ls 6 [(0, .ref (aL 0)), (1, .int x1), (2, .int x2), (4, .int x4), (5, .int x5)] → W p l e (xR 0 0 (oX2_replacePlaces aL K r)) s m args below meth c H locs 0 0 (xQ below args s D K A (oX2_replacePlaces aL K r)) (F0 m 45 ls []) := by
  obtain ⟨hx, hb, hr, hml, hown, hK, hts, hA, hG, hlk, hte, hnm⟩ := id C
  intro fu
  induction fu with
  | zero =>
    intro L x1 x2 x4 x5 r h
    exact nomatch (show (none : Option (Unit × (S2))) = some r from h)
  | succ fu ih =>
    intro L x1 x2 x4 x5 r h H locs ls hP hD hS hl
    replace h : (if x5 ≤ 0 then (if (0 : Int32) < 0 ∨ 4 ≤ ((0 : Int32)).toNatClampNeg then none else (if x2 < 0 ∨ 12 ≤ (x2).toNatClampNeg then none else rec22 (L.1, L.2.1, L.2.2.1, L.2.2.2.1, L.2.2.2.2.1, L.2.2.2.2.2.1, (upd L.2.2.2.2.2.2.1 (x2).toNatClampNeg x4), (upd L.2.2.2.2.2.2.2.1 ((0 : Int32)).toNatClampNeg x4), L.2.2.2.2.2.2.2.2.1, L.2.2.2.2.2.2.2.2.2.1, L.2.2.2.2.2.2.2.2.2.2.1, L.2.2.2.2.2.2.2.2.2.2.2) x1 (x2 + (1 : Int32)))) else (if (x5 - (1 : Int32)) < 0 ∨ 4 ≤ ((x5 - (1 : Int32))).toNatClampNeg then none else (if x5 < 0 ∨ 4 ≤ (x5).toNatClampNeg then none else fX2_replacePlaces_45 rec22 fu (L.1, L.2.1, L.2.2.1, L.2.2.2.1, L.2.2.2.2.1, L.2.2.2.2.2.1, L.2.2.2.2.2.2.1, (upd L.2.2.2.2.2.2.2.1 (x5).toNatClampNeg (L.2.2.2.2.2.2.2.1 ((x5 - (1 : Int32))).toNatClampNeg)), L.2.2.2.2.2.2.2.2.1, L.2.2.2.2.2.2.2.2.2.1, L.2.2.2.2.2.2.2.2.2.2.1, L.2.2.2.2.2.2.2.2.2.2.2) x1 x2 x4 (x5 + (-1 : Int32))))) = some r := h
    refine lv_iload hx hb dX2_replacePlaces_45 (lv_at hl 4 rfl) ?_
    refine lv_if_le (tgt := 72) hx hb dX2_replacePlaces_47 (by decide) (fun c9 => ?_) (fun c9 => ?_)
    · replace h := xi_t c9 h
      refine lv_aload_n hx hb dX2_replacePlaces_72 rfl (lv_at hl 0 rfl) ?_
      refine va_get (D := D) (ci := 2) (v := .ref (aL 24)) (C := RX2) (T := TX2) (N := 9) hx hb hts xu_X2 hown hK hP 0 rfl rfl 4 (by decide) (hts _ xw_111) (fun _ h9 => h9) rfl dX2_replacePlaces_73 ?_
      refine lv_iconst (v := (0 : Int32)) hx hb dX2_replacePlaces_76 (by decide) ?_
      refine lv_iload hx hb dX2_replacePlaces_77 (lv_at hl 3 rfl) ?_
      obtain ⟨hi9, h⟩ := xi_g h
      refine va_iast hx hb hK hP hD hS 24 0 rfl rfl hi9 dX2_replacePlaces_79 (fun H locs hP hD hS => ?_)
      have hP : va_P D vwCl (w2 aL K (L.1, L.2.1, L.2.2.1, L.2.2.2.1, L.2.2.2.2.1, L.2.2.2.2.2.1, L.2.2.2.2.2.2.1, (upd L.2.2.2.2.2.2.2.1 ((0 : Int32)).toNatClampNeg x4), L.2.2.2.2.2.2.2.2.1, L.2.2.2.2.2.2.2.2.2.1, L.2.2.2.2.2.2.2.2.2.2.1, L.2.2.2.2.2.2.2.2.2.2.2)) H := hP
      have hD : va_D A (w2 aL K (L.1, L.2.1, L.2.2.1, L.2.2.2.1, L.2.2.2.2.1, L.2.2.2.2.2.1, L.2.2.2.2.2.2.1, (upd L.2.2.2.2.2.2.2.1 ((0 : Int32)).toNatClampNeg x4), L.2.2.2.2.2.2.2.2.1, L.2.2.2.2.2.2.2.2.2.1, L.2.2.2.2.2.2.2.2.2.2.1, L.2.2.2.2.2.2.2.2.2.2.2)) := hD
      refine lv_aload_n hx hb dX2_replacePlaces_80 rfl (lv_at hl 0 rfl) ?_
      refine va_get (D := D) (ci := 2) (v := .ref (aL 23)) (C := RX2) (T := TX2) (N := 9) hx hb hts xu_X2 hown hK hP 0 rfl rfl 3 (by decide) (hts _ xw_110) (fun _ h9 => h9) rfl dX2_replacePlaces_81 ?_
      refine lv_iload_n hx hb dX2_replacePlaces_84 rfl (lv_at hl 2 rfl) ?_
      refine lv_iload hx hb dX2_replacePlaces_85 (lv_at hl 3 rfl) ?_
      obtain ⟨hi9, h⟩ := xi_g h
      refine va_iast hx hb hK hP hD hS 23 0 rfl rfl hi9 dX2_replacePlaces_87 (fun H locs hP hD hS => ?_)
      have hP : va_P D vwCl (w2 aL K (L.1, L.2.1, L.2.2.1, L.2.2.2.1, L.2.2.2.2.1, L.2.2.2.2.2.1, (upd L.2.2.2.2.2.2.1 (x2).toNatClampNeg x4), (upd L.2.2.2.2.2.2.2.1 ((0 : Int32)).toNatClampNeg x4), L.2.2.2.2.2.2.2.2.1, L.2.2.2.2.2.2.2.2.2.1, L.2.2.2.2.2.2.2.2.2.2.1, L.2.2.2.2.2.2.2.2.2.2.2)) H := hP
      have hD : va_D A (w2 aL K (L.1, L.2.1, L.2.2.1, L.2.2.2.1, L.2.2.2.2.1, L.2.2.2.2.2.1, (upd L.2.2.2.2.2.2.1 (x2).toNatClampNeg x4), (upd L.2.2.2.2.2.2.2.1 ((0 : Int32)).toNatClampNeg x4), L.2.2.2.2.2.2.2.2.1, L.2.2.2.2.2.2.2.2.2.1, L.2.2.2.2.2.2.2.2.2.2.1, L.2.2.2.2.2.2.2.2.2.2.2)) := hD
      refine lv_iinc (v := (x2 + (1 : Int32))) (lv' := [(2, .int (x2 + (1 : Int32))), (0, .ref (aL 0)), (1, .int x1), (4, .int x4), (5, .int x5)]) hx hb dX2_replacePlaces_88 hl (k := 2) rfl (by rfl) (by decide) rfl (fun ls hl => ?_)
      refine lv_goto (tgt := 22) hx hb dX2_replacePlaces_91 (by decide) ?_
      exact hrec22 _ _ _ _ h _ _ _ hP hD hS (lv_sub hl [1, 2, 0] rfl)
    · replace h := xi_f c9 h
      refine lv_aload_n hx hb dX2_replacePlaces_50 rfl (lv_at hl 0 rfl) ?_
      refine va_get (D := D) (ci := 2) (v := .ref (aL 24)) (C := RX2) (T := TX2) (N := 9) hx hb hts xu_X2 hown hK hP 0 rfl rfl 4 (by decide) (hts _ xw_111) (fun _ h9 => h9) rfl dX2_replacePlaces_51 ?_
      refine lv_iload hx hb dX2_replacePlaces_54 (lv_at hl 4 rfl) ?_
      refine lv_aload_n hx hb dX2_replacePlaces_56 rfl (lv_at hl 0 rfl) ?_
      refine va_get (D := D) (ci := 2) (v := .ref (aL 24)) (C := RX2) (T := TX2) (N := 9) hx hb hts xu_X2 hown hK hP 0 rfl rfl 4 (by decide) (hts _ xw_111) (fun _ h9 => h9) rfl dX2_replacePlaces_57 ?_
      refine lv_iload hx hb dX2_replacePlaces_60 (lv_at hl 4 rfl) ?_
      refine lv_iconst (v := (1 : Int32)) hx hb dX2_replacePlaces_62 (by decide) ?_
      refine lv_isub hx hb dX2_replacePlaces_63 ?_
      obtain ⟨hi9, h⟩ := xi_g h
      refine va_iald hx hb hK hP 24 0 rfl rfl hi9 dX2_replacePlaces_64 ?_
      obtain ⟨hi9, h⟩ := xi_g h
      refine va_iast hx hb hK hP hD hS 24 0 rfl rfl hi9 dX2_replacePlaces_65 (fun H locs hP hD hS => ?_)
      have hP : va_P D vwCl (w2 aL K (L.1, L.2.1, L.2.2.1, L.2.2.2.1, L.2.2.2.2.1, L.2.2.2.2.2.1, L.2.2.2.2.2.2.1, (upd L.2.2.2.2.2.2.2.1 (x5).toNatClampNeg (L.2.2.2.2.2.2.2.1 ((x5 - (1 : Int32))).toNatClampNeg)), L.2.2.2.2.2.2.2.2.1, L.2.2.2.2.2.2.2.2.2.1, L.2.2.2.2.2.2.2.2.2.2.1, L.2.2.2.2.2.2.2.2.2.2.2)) H := hP
      have hD : va_D A (w2 aL K (L.1, L.2.1, L.2.2.1, L.2.2.2.1, L.2.2.2.2.1, L.2.2.2.2.2.1, L.2.2.2.2.2.2.1, (upd L.2.2.2.2.2.2.2.1 (x5).toNatClampNeg (L.2.2.2.2.2.2.2.1 ((x5 - (1 : Int32))).toNatClampNeg)), L.2.2.2.2.2.2.2.2.1, L.2.2.2.2.2.2.2.2.2.1, L.2.2.2.2.2.2.2.2.2.2.1, L.2.2.2.2.2.2.2.2.2.2.2)) := hD
      refine lv_iinc (v := (x5 + (-1 : Int32))) (lv' := [(5, .int (x5 + (-1 : Int32))), (0, .ref (aL 0)), (1, .int x1), (2, .int x2), (4, .int x4)]) hx hb dX2_replacePlaces_66 hl (k := 4) rfl (by rfl) (by decide) rfl (fun ls hl => ?_)
      refine lv_goto (tgt := 45) hx hb dX2_replacePlaces_69 (by decide) ?_
      exact ih _ _ _ _ _ _ h _ _ _ hP hD hS (lv_sub hl [1, 2, 3, 4, 0] rfl)
set_option maxHeartbeats 4000000 in
set_option maxRecDepth 100000 in
theorem kX2_replacePlaces_22 {p : Program} {l : Launch} {e : Env} {s : State} {m : MethodId} {args : Array Value} {below : List Frame} {meth : Method} {c : Code} {D : va_G} {K : Nat → ClassId} {A : Nat → Prop} {aL : Nat → Nat} (C : xC p s m args meth c cX2_replacePlaces 6 none yX2_replacePlaces D K A []) : ∀ fu : Nat, ∀ (L : S2) (x1 : Int32) (x2 : Int32) (r : Unit × (S2)), fX2_replacePlaces_22 fu L x1 x2 = some r → ∀ (H : Heap) (locs : List Loc) (ls : Array Slot), va_P D vwCl (w2 aL K L) H → va_D A (w2 aL K L) → va_S A s.heap H locs → lv_has ls 6 [(0, .ref (aL 0)), (1, .int x1), (2, .int x2)] → W p l e (xR 0 0 (oX2_replacePlaces aL K r)) s m args below meth c H locs 0 0 (xQ below args s D K A (oX2_replacePlaces aL K r)) (F0 m 22 ls []) := by
  obtain ⟨hx, hb, hr, hml, hown, hK, hts, hA, hG, hlk, hte, hnm⟩ := id C
  intro fu
  induction fu with
  | zero =>
    intro L x1 x2 r h
    exact nomatch (show (none : Option (Unit × (S2))) = some r from h)
  | succ fu ih =>
    intro L x1 x2 r h H locs ls hP hD hS hl
    replace h : (if x1 ≤ x2 then some ((), L) else (if x2 < 0 ∨ 12 ≤ (x2).toNatClampNeg then none else (if (L.2.2.2.2.2.2.1 (x2).toNatClampNeg) < 0 ∨ 4 ≤ ((L.2.2.2.2.2.2.1 (x2).toNatClampNeg)).toNatClampNeg then none else fX2_replacePlaces_45 (fX2_replacePlaces_22 fu) xF L x1 x2 (L.2.2.2.2.2.2.2.1 ((L.2.2.2.2.2.2.1 (x2).toNatClampNeg)).toNatClampNeg) (L.2.2.2.2.2.2.1 (x2).toNatClampNeg)))) = some r := h
    refine lv_iload_n hx hb dX2_replacePlaces_22 rfl (lv_at hl 2 rfl) ?_
    refine lv_iload_n hx hb dX2_replacePlaces_23 rfl (lv_at hl 1 rfl) ?_
    refine lv_icmp_ge (tgt := 94) hx hb dX2_replacePlaces_24 (by decide) (fun c9 => ?_) (fun c9 => ?_)
    · replace h := xi_t c9 h
      obtain rfl := Option.some.inj h
      exact xe_v C hP hD hS dX2_replacePlaces_94
    · replace h := xi_f c9 h
      refine lv_aload_n hx hb dX2_replacePlaces_27 rfl (lv_at hl 0 rfl) ?_
      refine va_get (D := D) (ci := 2) (v := .ref (aL 23)) (C := RX2) (T := TX2) (N := 9) hx hb hts xu_X2 hown hK hP 0 rfl rfl 3 (by decide) (hts _ xw_110) (fun _ h9 => h9) rfl dX2_replacePlaces_28 ?_
      refine lv_iload_n hx hb dX2_replacePlaces_31 rfl (lv_at hl 2 rfl) ?_
      obtain ⟨hi9, h⟩ := xi_g h
      refine va_iald hx hb hK hP 23 0 rfl rfl hi9 dX2_replacePlaces_32 ?_
      refine lv_istore_n (lv' := [(3, .int (L.2.2.2.2.2.2.1 (x2).toNatClampNeg)), (0, .ref (aL 0)), (1, .int x1), (2, .int x2)]) hx hb dX2_replacePlaces_33 rfl hl (by decide) rfl (fun ls hl => ?_)
      refine lv_aload_n hx hb dX2_replacePlaces_34 rfl (lv_at hl 1 rfl) ?_
      refine va_get (D := D) (ci := 2) (v := .ref (aL 24)) (C := RX2) (T := TX2) (N := 9) hx hb hts xu_X2 hown hK hP 0 rfl rfl 4 (by decide) (hts _ xw_111) (fun _ h9 => h9) rfl dX2_replacePlaces_35 ?_
      refine lv_iload_n hx hb dX2_replacePlaces_38 rfl (lv_at hl 0 rfl) ?_
      obtain ⟨hi9, h⟩ := xi_g h
      refine va_iald hx hb hK hP 24 0 rfl rfl hi9 dX2_replacePlaces_39 ?_
      refine lv_istore (lv' := [(4, .int (L.2.2.2.2.2.2.2.1 ((L.2.2.2.2.2.2.1 (x2).toNatClampNeg)).toNatClampNeg)), (3, .int (L.2.2.2.2.2.2.1 (x2).toNatClampNeg)), (0, .ref (aL 0)), (1, .int x1), (2, .int x2)]) hx hb dX2_replacePlaces_40 hl (by decide) rfl (fun ls hl => ?_)
      refine lv_iload_n hx hb dX2_replacePlaces_42 rfl (lv_at hl 1 rfl) ?_
      refine lv_istore (lv' := [(5, .int (L.2.2.2.2.2.2.1 (x2).toNatClampNeg)), (4, .int (L.2.2.2.2.2.2.2.1 ((L.2.2.2.2.2.2.1 (x2).toNatClampNeg)).toNatClampNeg)), (3, .int (L.2.2.2.2.2.2.1 (x2).toNatClampNeg)), (0, .ref (aL 0)), (1, .int x1), (2, .int x2)]) hx hb dX2_replacePlaces_43 hl (by decide) rfl (fun ls hl => ?_)
      exact kX2_replacePlaces_45 C _ ih _ _ _ _ _ _ _ h _ _ _ hP hD hS (lv_sub hl [3, 4, 5, 1, 0] rfl)
set_option maxHeartbeats 4000000 in
set_option maxRecDepth 100000 in
theorem kX2_replacePlaces_2 {p : Program} {l : Launch} {e : Env} {s : State} {m : MethodId} {args : Array Value} {below : List Frame} {meth : Method} {c : Code} {D : va_G} {K : Nat → ClassId} {A : Nat → Prop} {aL : Nat → Nat} (C : xC p s m args meth c cX2_replacePlaces 6 none yX2_replacePlaces D K A []) : ∀ fu : Nat, ∀ (L : S2) (x1 : Int32) (x2 : Int32) (r : Unit × (S2)), fX2_replacePlaces_2 fu L x1 x2 = some r → ∀ (H : Heap) (locs : List Loc) (ls : Array Slot), va_P D vwCl (w2 aL K L) H → va_D A (w2 aL K L) → va_S A s.heap H locs → lv_has ls 6 [(0, .ref (aL 0)), (1, .int x1), (2, .int x2)] → W p l e (xR 0 0 (oX2_replacePlaces aL K r)) s m args below meth c H locs 0 0 (xQ below args s D K A (oX2_replacePlaces aL K r)) (F0 m 2 ls []) := by
  obtain ⟨hx, hb, hr, hml, hown, hK, hts, hA, hG, hlk, hte, hnm⟩ := id C
  intro fu
  induction fu with
  | zero =>
    intro L x1 x2 r h
    exact nomatch (show (none : Option (Unit × (S2))) = some r from h)
  | succ fu ih =>
    intro L x1 x2 r h H locs ls hP hD hS hl
    replace h : (if (4 : Int32) ≤ x2 then fX2_replacePlaces_22 xF L x1 (0 : Int32) else (if x2 < 0 ∨ 4 ≤ (x2).toNatClampNeg then none else fX2_replacePlaces_2 fu (L.1, L.2.1, L.2.2.1, L.2.2.2.1, L.2.2.2.2.1, L.2.2.2.2.2.1, L.2.2.2.2.2.2.1, (upd L.2.2.2.2.2.2.2.1 (x2).toNatClampNeg x2), L.2.2.2.2.2.2.2.2.1, L.2.2.2.2.2.2.2.2.2.1, L.2.2.2.2.2.2.2.2.2.2.1, L.2.2.2.2.2.2.2.2.2.2.2) x1 (x2 + (1 : Int32)))) = some r := h
    refine lv_iload_n hx hb dX2_replacePlaces_2 rfl (lv_at hl 2 rfl) ?_
    refine lv_iconst (v := (4 : Int32)) hx hb dX2_replacePlaces_3 (by decide) ?_
    refine lv_icmp_ge (tgt := 20) hx hb dX2_replacePlaces_4 (by decide) (fun c9 => ?_) (fun c9 => ?_)
    · replace h := xi_t c9 h
      refine lv_iconst (v := (0 : Int32)) hx hb dX2_replacePlaces_20 (by decide) ?_
      refine lv_istore_n (lv' := [(2, .int (0 : Int32)), (0, .ref (aL 0)), (1, .int x1)]) hx hb dX2_replacePlaces_21 rfl hl (by decide) rfl (fun ls hl => ?_)
      exact kX2_replacePlaces_22 C _ _ _ _ _ h _ _ _ hP hD hS (lv_sub hl [1, 2, 0] rfl)
    · replace h := xi_f c9 h
      refine lv_aload_n hx hb dX2_replacePlaces_7 rfl (lv_at hl 0 rfl) ?_
      refine va_get (D := D) (ci := 2) (v := .ref (aL 24)) (C := RX2) (T := TX2) (N := 9) hx hb hts xu_X2 hown hK hP 0 rfl rfl 4 (by decide) (hts _ xw_111) (fun _ h9 => h9) rfl dX2_replacePlaces_8 ?_
      refine lv_iload_n hx hb dX2_replacePlaces_11 rfl (lv_at hl 2 rfl) ?_
      refine lv_iload_n hx hb dX2_replacePlaces_12 rfl (lv_at hl 2 rfl) ?_
      obtain ⟨hi9, h⟩ := xi_g h
      refine va_iast hx hb hK hP hD hS 24 0 rfl rfl hi9 dX2_replacePlaces_13 (fun H locs hP hD hS => ?_)
      have hP : va_P D vwCl (w2 aL K (L.1, L.2.1, L.2.2.1, L.2.2.2.1, L.2.2.2.2.1, L.2.2.2.2.2.1, L.2.2.2.2.2.2.1, (upd L.2.2.2.2.2.2.2.1 (x2).toNatClampNeg x2), L.2.2.2.2.2.2.2.2.1, L.2.2.2.2.2.2.2.2.2.1, L.2.2.2.2.2.2.2.2.2.2.1, L.2.2.2.2.2.2.2.2.2.2.2)) H := hP
      have hD : va_D A (w2 aL K (L.1, L.2.1, L.2.2.1, L.2.2.2.1, L.2.2.2.2.1, L.2.2.2.2.2.1, L.2.2.2.2.2.2.1, (upd L.2.2.2.2.2.2.2.1 (x2).toNatClampNeg x2), L.2.2.2.2.2.2.2.2.1, L.2.2.2.2.2.2.2.2.2.1, L.2.2.2.2.2.2.2.2.2.2.1, L.2.2.2.2.2.2.2.2.2.2.2)) := hD
      refine lv_iinc (v := (x2 + (1 : Int32))) (lv' := [(2, .int (x2 + (1 : Int32))), (0, .ref (aL 0)), (1, .int x1)]) hx hb dX2_replacePlaces_14 hl (k := 2) rfl (by rfl) (by decide) rfl (fun ls hl => ?_)
      refine lv_goto (tgt := 2) hx hb dX2_replacePlaces_17 (by decide) ?_
      exact ih _ _ _ _ h _ _ _ hP hD hS (lv_sub hl [1, 2, 0] rfl)
set_option maxHeartbeats 4000000 in
set_option maxRecDepth 100000 in
theorem mX2_replacePlaces (l : Launch) (D : va_G) (K : Nat → ClassId) (aL : Nat → Nat) (sz : Nat) (L : S2) (p1 : Int32) (r : Unit × (S2)) (h : fX2_replacePlaces L p1 = some r) : xMet l yX2_replacePlaces cX2_replacePlaces 6 none 0 0 D K [.ref (aL 0), .int p1] sz (w2 aL K L) (oX2_replacePlaces aL K r) := by
  refine xm_of _ (by decide +kernel) (Nat.le_of_ble_eq_true rfl) (fun p e s m args below meth c A C hP hD ls hl => ?_)
  have hl : lv_has ls 6 [(0, .ref (aL 0)), (1, .int p1)] := hl
  have hS : va_S A s.heap s.heap [] := va_S.rf
  obtain ⟨hx, hb, hr, hml, hown, hK, hts, hA, hG, hlk, hte, hnm⟩ := id C
  replace h : fX2_replacePlaces_2 xF L p1 (0 : Int32) = some r := h
  refine lv_iconst (v := (0 : Int32)) hx hb dX2_replacePlaces_0 (by decide) ?_
  refine lv_istore_n (lv' := [(2, .int (0 : Int32)), (0, .ref (aL 0)), (1, .int p1)]) hx hb dX2_replacePlaces_1 rfl hl (by decide) rfl (fun ls hl => ?_)
  exact kX2_replacePlaces_2 C _ _ _ _ _ h _ _ _ hP hD hS (lv_sub hl [1, 2, 0] rfl)
