abbrev oX2_readTypes (aL : Nat → Nat) (aS : Nat → Nat) (K : Nat → ClassId) (r : (String × (S2 × S4)) ⊕ (Unit × (S2 × S4))) : xO := match r with
  | .inl q => .inl (q.1, w2 aL K q.2.1 ++ w4 aS K q.2.2)
  | .inr q => .inr (none, w2 aL K q.2.1 ++ w4 aS K q.2.2)
def fX2_readTypes_74 : Nat → S2 → S4 → Int32 → Option ((String × (S2 × S4)) ⊕ (Unit × (S2 × S4)))
  | 0 => fun _ _ _ => none
  | fu + 1 => fun L S x2 => (if L.2.2.2.2.2.2.2.2.1 ≤ x2 then some (.inr ((), (L, S))) else xbnd (fX4_readNumber S (2 : Int32)) (fun E9 s_8 => .inl (E9, (L, s_8))) (fun v_7 s_8 => (if x2 < 0 ∨ 3 ≤ (x2).toNatClampNeg then none else fX2_readTypes_74 fu (L.1, L.2.1, L.2.2.1, L.2.2.2.1, L.2.2.2.2.1, (upd L.2.2.2.2.2.1 (x2).toNatClampNeg v_7), L.2.2.2.2.2.2.1, L.2.2.2.2.2.2.2.1, L.2.2.2.2.2.2.2.2.1, L.2.2.2.2.2.2.2.2.2.1, L.2.2.2.2.2.2.2.2.2.2.1, L.2.2.2.2.2.2.2.2.2.2.2) s_8 (x2 + (1 : Int32)))))
def fX2_readTypes_72 (L : S2) (S : S4) : Option ((String × (S2 × S4)) ⊕ (Unit × (S2 × S4))) := fX2_readTypes_74 xF L S (0 : Int32)
def fX2_readTypes (L : S2) (S : S4) : Option ((String × (S2 × S4)) ⊕ (Unit × (S2 × S4))) := xbnd (fX4_readNumber S (2 : Int32)) (fun E9 s_2 => .inl (E9, (L, s_2))) (fun v_1 s_2 => (if (v_1 + (1 : Int32)) ≤ (3 : Int32) then (if (v_1 + (1 : Int32)) ≤ (1 : Int32) then fX2_readTypes_72 (L.1, L.2.1, L.2.2.1, L.2.2.2.1, L.2.2.2.2.1, L.2.2.2.2.2.1, L.2.2.2.2.2.2.1, L.2.2.2.2.2.2.2.1, (v_1 + (1 : Int32)), (0 : Int32), (1 : Int32), L.2.2.2.2.2.2.2.2.2.2.2) s_2 else xbnd (fX1_readCode L.1 s_2 ((v_1 + (1 : Int32)) + (2 : Int32))) (fun E9 s_4 => .inl (E9, ((s_4.1, L.2.1, L.2.2.1, L.2.2.2.1, L.2.2.2.2.1, L.2.2.2.2.2.1, L.2.2.2.2.2.2.1, L.2.2.2.2.2.2.2.1, (v_1 + (1 : Int32)), (0 : Int32), (1 : Int32), L.2.2.2.2.2.2.2.2.2.2.2), s_4.2))) (fun v_3 s_4 => xbnd (fX4_readNumber s_4.2 (5 : Int32)) (fun E9 s_6 => .inl (E9, ((s_4.1, L.2.1, L.2.2.1, L.2.2.2.1, L.2.2.2.2.1, L.2.2.2.2.2.1, L.2.2.2.2.2.2.1, L.2.2.2.2.2.2.2.1, (v_1 + (1 : Int32)), (0 : Int32), (1 : Int32), L.2.2.2.2.2.2.2.2.2.2.2), s_6))) (fun v_5 s_6 => fX2_readTypes_72 (s_4.1, L.2.1, L.2.2.1, L.2.2.2.1, L.2.2.2.2.1, L.2.2.2.2.2.1, L.2.2.2.2.2.2.1, L.2.2.2.2.2.2.2.1, (v_1 + (1 : Int32)), (0 : Int32), (1 : Int32), (v_5 + (1 : Int32))) s_6))) else some (.inl ("java/lang/IllegalArgumentException", ((L.1, L.2.1, L.2.2.1, L.2.2.2.1, L.2.2.2.2.1, L.2.2.2.2.2.1, L.2.2.2.2.2.2.1, L.2.2.2.2.2.2.2.1, (v_1 + (1 : Int32)), L.2.2.2.2.2.2.2.2.2.1, L.2.2.2.2.2.2.2.2.2.2.1, L.2.2.2.2.2.2.2.2.2.2.2), s_2)))))
set_option maxHeartbeats 4000000 in
set_option maxRecDepth 100000 in
theorem kX2_readTypes_74 {p : Program} {l : Launch} {e : Env} {s : State} {m : MethodId} {args : Array Value} {below : List Frame} {meth : Method} {c : Code} {D : va_G} {K : Nat → ClassId} {A : Nat → Prop} {aL : Nat → Nat} {aS : Nat → Nat} (C : xC p s m args meth c cX2_readTypes 3 none yX2_readTypes D K A []) (hlt : l.stackTraces = false) : ∀ fu : Nat, ∀ (L : S2) (S : S4) (x2 : Int32) (r : (String × (S2 × S4)) ⊕ (Unit × (S2 × S4))), fX2_readTypes_74 fu L S x2 = some r → ∀ (H : Heap) (locs : List Loc) (ls : Array Slot), va_P D vwCl (w2 aL K L ++ w4 aS K S) H → va_D A (w2 aL K L ++ w4 aS K S) → va_S A s.heap H locs → lv_has ls 3 [(0, .ref (aL 0)), (1, .ref (aS 0)), (2, .int x2)] → W p l e (xR 9 162 (oX2_readTypes aL aS K r)) s m args below meth c H locs 0 0 (xQ below args s D K A (oX2_readTypes aL aS K r)) (F0 m 74 ls []) := by
  obtain ⟨hx, hb, hr, hml, hown, hK, hts, hA, hG, hlk, hte, hnm⟩ := id C
  intro fu
  induction fu with
  | zero =>
    intro L S x2 r h
    exact nomatch (show (none : Option ((String × (S2 × S4)) ⊕ (Unit × (S2 × S4)))) = some r from h)
  | succ fu ih =>
    intro L S x2 r h H locs ls hP hD hS hl
    replace h : (if L.2.2.2.2.2.2.2.2.1 ≤ x2 then some (.inr ((), (L, S))) else xbnd (fX4_readNumber S (2 : Int32)) (fun E9 s_8 => .inl (E9, (L, s_8))) (fun v_7 s_8 => (if x2 < 0 ∨ 3 ≤ (x2).toNatClampNeg then none else fX2_readTypes_74 fu (L.1, L.2.1, L.2.2.1, L.2.2.2.1, L.2.2.2.2.1, (upd L.2.2.2.2.2.1 (x2).toNatClampNeg v_7), L.2.2.2.2.2.2.1, L.2.2.2.2.2.2.2.1, L.2.2.2.2.2.2.2.2.1, L.2.2.2.2.2.2.2.2.2.1, L.2.2.2.2.2.2.2.2.2.2.1, L.2.2.2.2.2.2.2.2.2.2.2) s_8 (x2 + (1 : Int32))))) = some r := h
    refine lv_iload_n hx hb dX2_readTypes_74 rfl (lv_at hl 2 rfl) ?_
    refine lv_aload_n hx hb dX2_readTypes_75 rfl (lv_at hl 0 rfl) ?_
    refine va_get (D := D) (ci := 2) (v := .int L.2.2.2.2.2.2.2.2.1) (C := RX2) (T := TX2) (N := 9) hx hb hts xu_X2 hown hK hP 0 rfl rfl 5 (by decide) (hts _ xw_112) (fun _ h9 => h9) rfl dX2_readTypes_76 ?_
    refine lv_icmp_ge (tgt := 99) hx hb dX2_readTypes_79 (by decide) (fun c9 => ?_) (fun c9 => ?_)
    · replace h := xi_t c9 h
      obtain rfl := Option.some.inj h
      exact xe_v C hP hD hS dX2_readTypes_99
    · replace h := xi_f c9 h
      refine lv_aload_n hx hb dX2_readTypes_82 rfl (lv_at hl 0 rfl) ?_
      refine va_get (D := D) (ci := 2) (v := .ref (aL 22)) (C := RX2) (T := TX2) (N := 9) hx hb hts xu_X2 hown hK hP 0 rfl rfl 2 (by decide) (hts _ xw_109) (fun _ h9 => h9) rfl dX2_readTypes_83 ?_
      refine lv_iload_n hx hb dX2_readTypes_86 rfl (lv_at hl 2 rfl) ?_
      refine lv_aload_n hx hb dX2_readTypes_87 rfl (lv_at hl 1 rfl) ?_
      refine lv_iconst (v := (2 : Int32)) hx hb dX2_readTypes_88 (by decide) ?_
      rcases xi_c h with ⟨E9, s_8, hc9, rfl⟩ | ⟨v_7, s_8, hc9, h⟩
      · exact xc_Vt (As := [.int (2 : Int32)]) (ws' := w2 aL K L ++ w4 aS K s_8) C (mX4_readNumber l hlt D K aS _ _ _ _ hc9) xgi_X2_30 xd_X4_readNumber ⟨Nat.le_of_ble_eq_true rfl, Nat.le_of_ble_eq_true rfl⟩ ⟨Nat.le_refl _, Nat.le_refl _⟩ hl rfl (Nat.le_of_ble_eq_true rfl) dX2_readTypes_89 hP hD hS 25 4 rfl rfl rfl [25, 26] rfl rfl [(25, w4 aS K s_8)] rfl rfl rfl (List.forall_mem_cons.mpr ⟨Nat.le_of_ble_eq_true rfl, (fun _ h => absurd h List.not_mem_nil)⟩)
      · refine xc_V (As := [.int (2 : Int32)]) (ws' := w2 aL K L ++ w4 aS K s_8) C (mX4_readNumber l hlt D K aS _ _ _ _ hc9) xgi_X2_30 xd_X4_readNumber ⟨Nat.le_of_ble_eq_true rfl, Nat.le_of_ble_eq_true rfl⟩ ⟨Nat.zero_le _, Nat.zero_le _⟩ hl rfl (Nat.le_of_ble_eq_true rfl) dX2_readTypes_89 hP hD hS 25 4 rfl rfl rfl [25, 26] rfl rfl [(25, w4 aS K s_8)] rfl rfl rfl (List.forall_mem_cons.mpr ⟨Nat.le_of_ble_eq_true rfl, (fun _ h => absurd h List.not_mem_nil)⟩) (fun H locs hP hD hS => ?_)
        refine W.eq (g2 := F0 m 92 ls [.int v_7, .int x2, .ref (aL 22)]) rfl ?_
        obtain ⟨hi9, h⟩ := xi_g h
        refine va_iast hx hb hK hP hD hS 22 0 rfl rfl hi9 dX2_readTypes_92 (fun H locs hP hD hS => ?_)
        have hP : va_P D vwCl (w2 aL K (L.1, L.2.1, L.2.2.1, L.2.2.2.1, L.2.2.2.2.1, (upd L.2.2.2.2.2.1 (x2).toNatClampNeg v_7), L.2.2.2.2.2.2.1, L.2.2.2.2.2.2.2.1, L.2.2.2.2.2.2.2.2.1, L.2.2.2.2.2.2.2.2.2.1, L.2.2.2.2.2.2.2.2.2.2.1, L.2.2.2.2.2.2.2.2.2.2.2) ++ w4 aS K s_8) H := hP
        have hD : va_D A (w2 aL K (L.1, L.2.1, L.2.2.1, L.2.2.2.1, L.2.2.2.2.1, (upd L.2.2.2.2.2.1 (x2).toNatClampNeg v_7), L.2.2.2.2.2.2.1, L.2.2.2.2.2.2.2.1, L.2.2.2.2.2.2.2.2.1, L.2.2.2.2.2.2.2.2.2.1, L.2.2.2.2.2.2.2.2.2.2.1, L.2.2.2.2.2.2.2.2.2.2.2) ++ w4 aS K s_8) := hD
        refine lv_iinc (v := (x2 + (1 : Int32))) (lv' := [(2, .int (x2 + (1 : Int32))), (0, .ref (aL 0)), (1, .ref (aS 0))]) hx hb dX2_readTypes_93 hl (k := 2) rfl (by rfl) (by decide) rfl (fun ls hl => ?_)
        refine lv_goto (tgt := 74) hx hb dX2_readTypes_96 (by decide) ?_
        exact ih _ _ _ _ h _ _ _ hP hD hS (lv_sub hl [1, 2, 0] rfl)
set_option maxHeartbeats 4000000 in
set_option maxRecDepth 100000 in
theorem kX2_readTypes_72 {p : Program} {l : Launch} {e : Env} {s : State} {m : MethodId} {args : Array Value} {below : List Frame} {meth : Method} {c : Code} {D : va_G} {K : Nat → ClassId} {A : Nat → Prop} {aL : Nat → Nat} {aS : Nat → Nat} (C : xC p s m args meth c cX2_readTypes 3 none yX2_readTypes D K A []) (hlt : l.stackTraces = false) : ∀ (L : S2) (S : S4) (r : (String × (S2 × S4)) ⊕ (Unit × (S2 × S4))), fX2_readTypes_72  L S = some r → ∀ (H : Heap) (locs : List Loc) (ls : Array Slot), va_P D vwCl (w2 aL K L ++ w4 aS K S) H → va_D A (w2 aL K L ++ w4 aS K S) → va_S A s.heap H locs → lv_has ls 3 [(0, .ref (aL 0)), (1, .ref (aS 0))] → W p l e (xR 9 162 (oX2_readTypes aL aS K r)) s m args below meth c H locs 0 0 (xQ below args s D K A (oX2_readTypes aL aS K r)) (F0 m 72 ls []) := by
  obtain ⟨hx, hb, hr, hml, hown, hK, hts, hA, hG, hlk, hte, hnm⟩ := id C
  intro L S r h H locs ls hP hD hS hl
  replace h : fX2_readTypes_74 xF L S (0 : Int32) = some r := h
  refine lv_iconst (v := (0 : Int32)) hx hb dX2_readTypes_72 (by decide) ?_
  refine lv_istore_n (lv' := [(2, .int (0 : Int32)), (0, .ref (aL 0)), (1, .ref (aS 0))]) hx hb dX2_readTypes_73 rfl hl (by decide) rfl (fun ls hl => ?_)
  exact kX2_readTypes_74 C hlt _ _ _ _ _ h _ _ _ hP hD hS (lv_sub hl [1, 2, 0] rfl)
set_option maxHeartbeats 4000000 in
set_option maxRecDepth 100000 in
theorem mX2_readTypes (l : Launch) (hlt : l.stackTraces = false) (D : va_G) (K : Nat → ClassId) (aL : Nat → Nat) (aS : Nat → Nat) (sz : Nat) (L : S2) (S : S4) (r : (String × (S2 × S4)) ⊕ (Unit × (S2 × S4))) (h : fX2_readTypes L S = some r) : xMet l yX2_readTypes cX2_readTypes 3 none 9 162 D K [.ref (aL 0), .ref (aS 0)] sz (w2 aL K L ++ w4 aS K S) (oX2_readTypes aL aS K r) := by
  refine xm_of _ (by decide +kernel) (Nat.le_of_ble_eq_true rfl) (fun p e s m args below meth c A C hP hD ls hl => ?_)
  have hl : lv_has ls 3 [(0, .ref (aL 0)), (1, .ref (aS 0))] := hl
  have hS : va_S A s.heap s.heap [] := va_S.rf
  obtain ⟨hx, hb, hr, hml, hown, hK, hts, hA, hG, hlk, hte, hnm⟩ := id C
  replace h : xbnd (fX4_readNumber S (2 : Int32)) (fun E9 s_2 => .inl (E9, (L, s_2))) (fun v_1 s_2 => (if (v_1 + (1 : Int32)) ≤ (3 : Int32) then (if (v_1 + (1 : Int32)) ≤ (1 : Int32) then fX2_readTypes_72 (L.1, L.2.1, L.2.2.1, L.2.2.2.1, L.2.2.2.2.1, L.2.2.2.2.2.1, L.2.2.2.2.2.2.1, L.2.2.2.2.2.2.2.1, (v_1 + (1 : Int32)), (0 : Int32), (1 : Int32), L.2.2.2.2.2.2.2.2.2.2.2) s_2 else xbnd (fX1_readCode L.1 s_2 ((v_1 + (1 : Int32)) + (2 : Int32))) (fun E9 s_4 => .inl (E9, ((s_4.1, L.2.1, L.2.2.1, L.2.2.2.1, L.2.2.2.2.1, L.2.2.2.2.2.1, L.2.2.2.2.2.2.1, L.2.2.2.2.2.2.2.1, (v_1 + (1 : Int32)), (0 : Int32), (1 : Int32), L.2.2.2.2.2.2.2.2.2.2.2), s_4.2))) (fun v_3 s_4 => xbnd (fX4_readNumber s_4.2 (5 : Int32)) (fun E9 s_6 => .inl (E9, ((s_4.1, L.2.1, L.2.2.1, L.2.2.2.1, L.2.2.2.2.1, L.2.2.2.2.2.1, L.2.2.2.2.2.2.1, L.2.2.2.2.2.2.2.1, (v_1 + (1 : Int32)), (0 : Int32), (1 : Int32), L.2.2.2.2.2.2.2.2.2.2.2), s_6))) (fun v_5 s_6 => fX2_readTypes_72 (s_4.1, L.2.1, L.2.2.1, L.2.2.2.1, L.2.2.2.2.1, L.2.2.2.2.2.1, L.2.2.2.2.2.2.1, L.2.2.2.2.2.2.2.1, (v_1 + (1 : Int32)), (0 : Int32), (1 : Int32), (v_5 + (1 : Int32))) s_6))) else some (.inl ("java/lang/IllegalArgumentException", ((L.1, L.2.1, L.2.2.1, L.2.2.2.1, L.2.2.2.2.1, L.2.2.2.2.2.1, L.2.2.2.2.2.2.1, L.2.2.2.2.2.2.2.1, (v_1 + (1 : Int32)), L.2.2.2.2.2.2.2.2.2.1, L.2.2.2.2.2.2.2.2.2.2.1, L.2.2.2.2.2.2.2.2.2.2.2), s_2))))) = some r := h
  refine lv_aload_n hx hb dX2_readTypes_0 rfl (lv_at hl 0 rfl) ?_
  refine lv_aload_n hx hb dX2_readTypes_1 rfl (lv_at hl 1 rfl) ?_
  refine lv_iconst (v := (2 : Int32)) hx hb dX2_readTypes_2 (by decide) ?_
  rcases xi_c h with ⟨E9, s_2, hc9, rfl⟩ | ⟨v_1, s_2, hc9, h⟩
  · exact xc_Vt (As := [.int (2 : Int32)]) (ws' := w2 aL K L ++ w4 aS K s_2) C (mX4_readNumber l hlt D K aS _ _ _ _ hc9) xgi_X2_30 xd_X4_readNumber ⟨Nat.le_of_ble_eq_true rfl, Nat.le_of_ble_eq_true rfl⟩ ⟨Nat.le_refl _, Nat.le_refl _⟩ hl rfl (Nat.le_of_ble_eq_true rfl) dX2_readTypes_3 hP hD hS 25 4 rfl rfl rfl [25, 26] rfl rfl [(25, w4 aS K s_2)] rfl rfl rfl (List.forall_mem_cons.mpr ⟨Nat.le_of_ble_eq_true rfl, (fun _ h => absurd h List.not_mem_nil)⟩)
  · refine xc_V (As := [.int (2 : Int32)]) (ws' := w2 aL K L ++ w4 aS K s_2) C (mX4_readNumber l hlt D K aS _ _ _ _ hc9) xgi_X2_30 xd_X4_readNumber ⟨Nat.le_of_ble_eq_true rfl, Nat.le_of_ble_eq_true rfl⟩ ⟨Nat.zero_le _, Nat.zero_le _⟩ hl rfl (Nat.le_of_ble_eq_true rfl) dX2_readTypes_3 hP hD hS 25 4 rfl rfl rfl [25, 26] rfl rfl [(25, w4 aS K s_2)] rfl rfl rfl (List.forall_mem_cons.mpr ⟨Nat.le_of_ble_eq_true rfl, (fun _ h => absurd h List.not_mem_nil)⟩) (fun H locs hP hD hS => ?_)
    refine W.eq (g2 := F0 m 6 ls [.int v_1, .ref (aL 0)]) rfl ?_
    refine lv_iconst (v := (1 : Int32)) hx hb dX2_readTypes_6 (by decide) ?_
    refine lv_iadd hx hb dX2_readTypes_7 ?_
    refine va_put (D := D) (ci := 2) (v := .int (v_1 + (1 : Int32))) (ty := .int) (C := RX2) (T := TX2) (N := 9) hx hb hts xu_X2 tyX2 tyX2_ok nmX2 hown hK hP hD hS 0 rfl rfl 5 (by decide) (hts _ xw_112) (fun _ h9 => h9) rfl (by decide +kernel) rfl rfl (Nat.le_of_ble_eq_true rfl) dX2_readTypes_8 (fun H locs hP hD hS => ?_)
    have hP : va_P D vwCl (w2 aL K (L.1, L.2.1, L.2.2.1, L.2.2.2.1, L.2.2.2.2.1, L.2.2.2.2.2.1, L.2.2.2.2.2.2.1, L.2.2.2.2.2.2.2.1, (v_1 + (1 : Int32)), L.2.2.2.2.2.2.2.2.2.1, L.2.2.2.2.2.2.2.2.2.2.1, L.2.2.2.2.2.2.2.2.2.2.2) ++ w4 aS K s_2) H := hP
    have hD : va_D A (w2 aL K (L.1, L.2.1, L.2.2.1, L.2.2.2.1, L.2.2.2.2.1, L.2.2.2.2.2.1, L.2.2.2.2.2.2.1, L.2.2.2.2.2.2.2.1, (v_1 + (1 : Int32)), L.2.2.2.2.2.2.2.2.2.1, L.2.2.2.2.2.2.2.2.2.2.1, L.2.2.2.2.2.2.2.2.2.2.2) ++ w4 aS K s_2) := hD
    refine lv_aload_n hx hb dX2_readTypes_11 rfl (lv_at hl 0 rfl) ?_
    refine va_get (D := D) (ci := 2) (v := .int (v_1 + (1 : Int32))) (C := RX2) (T := TX2) (N := 9) hx hb hts xu_X2 hown hK hP 0 rfl rfl 5 (by decide) (hts _ xw_112) (fun _ h9 => h9) rfl dX2_readTypes_12 ?_
    refine lv_iconst (v := (3 : Int32)) hx hb dX2_readTypes_15 (by decide) ?_
    refine lv_icmp_le (tgt := 29) hx hb dX2_readTypes_16 (by decide) (fun c9 => ?_) (fun c9 => ?_)
    · replace h := xi_t c9 h
      refine lv_aload_n hx hb dX2_readTypes_29 rfl (lv_at hl 0 rfl) ?_
      refine lv_iconst (v := (0 : Int32)) hx hb dX2_readTypes_30 (by decide) ?_
      refine va_put (D := D) (ci := 2) (v := .int (0 : Int32)) (ty := .int) (C := RX2) (T := TX2) (N := 9) hx hb hts xu_X2 tyX2 tyX2_ok nmX2 hown hK hP hD hS 0 rfl rfl 6 (by decide) (hts _ xw_113) (fun _ h9 => h9) rfl (by decide +kernel) rfl rfl (Nat.le_of_ble_eq_true rfl) dX2_readTypes_31 (fun H locs hP hD hS => ?_)
      have hP : va_P D vwCl (w2 aL K (L.1, L.2.1, L.2.2.1, L.2.2.2.1, L.2.2.2.2.1, L.2.2.2.2.2.1, L.2.2.2.2.2.2.1, L.2.2.2.2.2.2.2.1, (v_1 + (1 : Int32)), (0 : Int32), L.2.2.2.2.2.2.2.2.2.2.1, L.2.2.2.2.2.2.2.2.2.2.2) ++ w4 aS K s_2) H := hP
      have hD : va_D A (w2 aL K (L.1, L.2.1, L.2.2.1, L.2.2.2.1, L.2.2.2.2.1, L.2.2.2.2.2.1, L.2.2.2.2.2.2.1, L.2.2.2.2.2.2.2.1, (v_1 + (1 : Int32)), (0 : Int32), L.2.2.2.2.2.2.2.2.2.2.1, L.2.2.2.2.2.2.2.2.2.2.2) ++ w4 aS K s_2) := hD
      refine lv_aload_n hx hb dX2_readTypes_34 rfl (lv_at hl 0 rfl) ?_
      refine lv_iconst (v := (1 : Int32)) hx hb dX2_readTypes_35 (by decide) ?_
      refine va_put (D := D) (ci := 2) (v := .int (1 : Int32)) (ty := .int) (C := RX2) (T := TX2) (N := 9) hx hb hts xu_X2 tyX2 tyX2_ok nmX2 hown hK hP hD hS 0 rfl rfl 7 (by decide) (hts _ xw_114) (fun _ h9 => h9) rfl (by decide +kernel) rfl rfl (Nat.le_of_ble_eq_true rfl) dX2_readTypes_36 (fun H locs hP hD hS => ?_)
      have hP : va_P D vwCl (w2 aL K (L.1, L.2.1, L.2.2.1, L.2.2.2.1, L.2.2.2.2.1, L.2.2.2.2.2.1, L.2.2.2.2.2.2.1, L.2.2.2.2.2.2.2.1, (v_1 + (1 : Int32)), (0 : Int32), (1 : Int32), L.2.2.2.2.2.2.2.2.2.2.2) ++ w4 aS K s_2) H := hP
      have hD : va_D A (w2 aL K (L.1, L.2.1, L.2.2.1, L.2.2.2.1, L.2.2.2.2.1, L.2.2.2.2.2.1, L.2.2.2.2.2.2.1, L.2.2.2.2.2.2.2.1, (v_1 + (1 : Int32)), (0 : Int32), (1 : Int32), L.2.2.2.2.2.2.2.2.2.2.2) ++ w4 aS K s_2) := hD
      refine lv_aload_n hx hb dX2_readTypes_39 rfl (lv_at hl 0 rfl) ?_
      refine va_get (D := D) (ci := 2) (v := .int (v_1 + (1 : Int32))) (C := RX2) (T := TX2) (N := 9) hx hb hts xu_X2 hown hK hP 0 rfl rfl 5 (by decide) (hts _ xw_112) (fun _ h9 => h9) rfl dX2_readTypes_40 ?_
      refine lv_iconst (v := (1 : Int32)) hx hb dX2_readTypes_43 (by decide) ?_
      refine lv_icmp_le (tgt := 72) hx hb dX2_readTypes_44 (by decide) (fun c9 => ?_) (fun c9 => ?_)
      · replace h := xi_t c9 h
        exact kX2_readTypes_72 C hlt _ _ _ h _ _ _ hP hD hS (lv_sub hl [0, 1] rfl)
      · replace h := xi_f c9 h
        refine lv_aload_n hx hb dX2_readTypes_47 rfl (lv_at hl 0 rfl) ?_
        refine va_get (D := D) (ci := 2) (v := .ref (aL 1)) (C := RX2) (T := TX2) (N := 9) hx hb hts xu_X2 hown hK hP 0 rfl rfl 0 (by decide) (hts _ xw_107) (fun _ h9 => h9) rfl dX2_readTypes_48 ?_
        refine lv_aload_n hx hb dX2_readTypes_51 rfl (lv_at hl 1 rfl) ?_
        refine lv_aload_n hx hb dX2_readTypes_52 rfl (lv_at hl 0 rfl) ?_
        refine va_get (D := D) (ci := 2) (v := .int (v_1 + (1 : Int32))) (C := RX2) (T := TX2) (N := 9) hx hb hts xu_X2 hown hK hP 0 rfl rfl 5 (by decide) (hts _ xw_112) (fun _ h9 => h9) rfl dX2_readTypes_53 ?_
        refine lv_iconst (v := (2 : Int32)) hx hb dX2_readTypes_56 (by decide) ?_
        refine lv_iadd hx hb dX2_readTypes_57 ?_
        rcases xi_c h with ⟨E9, s_4, hc9, rfl⟩ | ⟨v_3, s_4, hc9, h⟩
        · exact xc_Vt (As := [.ref (aS 0), .int ((v_1 + (1 : Int32)) + (2 : Int32))]) (ws' := w2 aL K (s_4.1, L.2.1, L.2.2.1, L.2.2.2.1, L.2.2.2.2.1, L.2.2.2.2.2.1, L.2.2.2.2.2.2.1, L.2.2.2.2.2.2.2.1, (v_1 + (1 : Int32)), (0 : Int32), (1 : Int32), L.2.2.2.2.2.2.2.2.2.2.2) ++ w4 aS K s_4.2) C (mX1_readCode l hlt D K (fun i => aL (i + 1)) aS _ _ _ _ _ hc9) xgi_X2_53 xd_X1_readCode ⟨Nat.le_of_ble_eq_true rfl, Nat.le_of_ble_eq_true rfl⟩ ⟨Nat.le_refl _, Nat.le_refl _⟩ hl rfl (Nat.le_of_ble_eq_true rfl) dX2_readTypes_58 hP hD hS 1 1 rfl rfl rfl [1, 2, 3, 4, 25, 26] rfl rfl [(1, w1 (fun i => aL (i + 1)) K s_4.1), (25, w4 aS K s_4.2)] rfl rfl rfl (List.forall_mem_cons.mpr ⟨Nat.le_of_ble_eq_true rfl, (List.forall_mem_cons.mpr ⟨Nat.le_of_ble_eq_true rfl, (fun _ h => absurd h List.not_mem_nil)⟩)⟩)
        · refine xc_V (As := [.ref (aS 0), .int ((v_1 + (1 : Int32)) + (2 : Int32))]) (ws' := w2 aL K (s_4.1, L.2.1, L.2.2.1, L.2.2.2.1, L.2.2.2.2.1, L.2.2.2.2.2.1, L.2.2.2.2.2.2.1, L.2.2.2.2.2.2.2.1, (v_1 + (1 : Int32)), (0 : Int32), (1 : Int32), L.2.2.2.2.2.2.2.2.2.2.2) ++ w4 aS K s_4.2) C (mX1_readCode l hlt D K (fun i => aL (i + 1)) aS _ _ _ _ _ hc9) xgi_X2_53 xd_X1_readCode ⟨Nat.le_of_ble_eq_true rfl, Nat.le_of_ble_eq_true rfl⟩ ⟨Nat.zero_le _, Nat.zero_le _⟩ hl rfl (Nat.le_of_ble_eq_true rfl) dX2_readTypes_58 hP hD hS 1 1 rfl rfl rfl [1, 2, 3, 4, 25, 26] rfl rfl [(1, w1 (fun i => aL (i + 1)) K s_4.1), (25, w4 aS K s_4.2)] rfl rfl rfl (List.forall_mem_cons.mpr ⟨Nat.le_of_ble_eq_true rfl, (List.forall_mem_cons.mpr ⟨Nat.le_of_ble_eq_true rfl, (fun _ h => absurd h List.not_mem_nil)⟩)⟩) (fun H locs hP hD hS => ?_)
          refine W.eq (g2 := F0 m 61 ls []) rfl ?_
          refine lv_aload_n hx hb dX2_readTypes_61 rfl (lv_at hl 0 rfl) ?_
          refine lv_aload_n hx hb dX2_readTypes_62 rfl (lv_at hl 1 rfl) ?_
          refine lv_iconst (v := (5 : Int32)) hx hb dX2_readTypes_63 (by decide) ?_
          rcases xi_c h with ⟨E9, s_6, hc9, rfl⟩ | ⟨v_5, s_6, hc9, h⟩
          · exact xc_Vt (As := [.int (5 : Int32)]) (ws' := w2 aL K (s_4.1, L.2.1, L.2.2.1, L.2.2.2.1, L.2.2.2.2.1, L.2.2.2.2.2.1, L.2.2.2.2.2.2.1, L.2.2.2.2.2.2.2.1, (v_1 + (1 : Int32)), (0 : Int32), (1 : Int32), L.2.2.2.2.2.2.2.2.2.2.2) ++ w4 aS K s_6) C (mX4_readNumber l hlt D K aS _ _ _ _ hc9) xgi_X2_30 xd_X4_readNumber ⟨Nat.le_of_ble_eq_true rfl, Nat.le_of_ble_eq_true rfl⟩ ⟨Nat.le_refl _, Nat.le_refl _⟩ hl rfl (Nat.le_of_ble_eq_true rfl) dX2_readTypes_64 hP hD hS 25 4 rfl rfl rfl [25, 26] rfl rfl [(25, w4 aS K s_6)] rfl rfl rfl (List.forall_mem_cons.mpr ⟨Nat.le_of_ble_eq_true rfl, (fun _ h => absurd h List.not_mem_nil)⟩)
          · refine xc_V (As := [.int (5 : Int32)]) (ws' := w2 aL K (s_4.1, L.2.1, L.2.2.1, L.2.2.2.1, L.2.2.2.2.1, L.2.2.2.2.2.1, L.2.2.2.2.2.2.1, L.2.2.2.2.2.2.2.1, (v_1 + (1 : Int32)), (0 : Int32), (1 : Int32), L.2.2.2.2.2.2.2.2.2.2.2) ++ w4 aS K s_6) C (mX4_readNumber l hlt D K aS _ _ _ _ hc9) xgi_X2_30 xd_X4_readNumber ⟨Nat.le_of_ble_eq_true rfl, Nat.le_of_ble_eq_true rfl⟩ ⟨Nat.zero_le _, Nat.zero_le _⟩ hl rfl (Nat.le_of_ble_eq_true rfl) dX2_readTypes_64 hP hD hS 25 4 rfl rfl rfl [25, 26] rfl rfl [(25, w4 aS K s_6)] rfl rfl rfl (List.forall_mem_cons.mpr ⟨Nat.le_of_ble_eq_true rfl, (fun _ h => absurd h List.not_mem_nil)⟩) (fun H locs hP hD hS => ?_)
            refine W.eq (g2 := F0 m 67 ls [.int v_5, .ref (aL 0)]) rfl ?_
            refine lv_iconst (v := (1 : Int32)) hx hb dX2_readTypes_67 (by decide) ?_
            refine lv_iadd hx hb dX2_readTypes_68 ?_
            refine va_put (D := D) (ci := 2) (v := .int (v_5 + (1 : Int32))) (ty := .int) (C := RX2) (T := TX2) (N := 9) hx hb hts xu_X2 tyX2 tyX2_ok nmX2 hown hK hP hD hS 0 rfl rfl 8 (by decide) (hts _ xw_115) (fun _ h9 => h9) rfl (by decide +kernel) rfl rfl (Nat.le_of_ble_eq_true rfl) dX2_readTypes_69 (fun H locs hP hD hS => ?_)
            have hP : va_P D vwCl (w2 aL K (s_4.1, L.2.1, L.2.2.1, L.2.2.2.1, L.2.2.2.2.1, L.2.2.2.2.2.1, L.2.2.2.2.2.2.1, L.2.2.2.2.2.2.2.1, (v_1 + (1 : Int32)), (0 : Int32), (1 : Int32), (v_5 + (1 : Int32))) ++ w4 aS K s_6) H := hP
            have hD : va_D A (w2 aL K (s_4.1, L.2.1, L.2.2.1, L.2.2.2.1, L.2.2.2.2.1, L.2.2.2.2.2.1, L.2.2.2.2.2.2.1, L.2.2.2.2.2.2.2.1, (v_1 + (1 : Int32)), (0 : Int32), (1 : Int32), (v_5 + (1 : Int32))) ++ w4 aS K s_6) := hD
            exact kX2_readTypes_72 C hlt _ _ _ h _ _ _ hP hD hS (lv_sub hl [0, 1] rfl)
    · replace h := xi_f c9 h
      obtain rfl := Option.some.inj h
      exact xe_throw C hlt (text := "there are four types") xf_IllegalArgumentException xf_names xw_379 xw_44 (List.mem_of_getElem? (i := 7) rfl) xat_X2_44 xgd_X2_44 hl hP hD hS dX2_readTypes_19 dX2_readTypes_22 dX2_readTypes_23 dX2_readTypes_25 dX2_readTypes_28 (Nat.le_of_ble_eq_true rfl) (Nat.le_of_ble_eq_true rfl)
