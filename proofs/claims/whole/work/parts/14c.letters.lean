abbrev oX2_readStretch (aL : Nat → Nat) (aS : Nat → Nat) (K : Nat → ClassId) (r : (String × (S2 × S4)) ⊕ (Unit × (S2 × S4))) : xO := match r with
  | .inl q => .inl (q.1, w2 aL K q.2.1 ++ w4 aS K q.2.2)
  | .inr q => .inr (none, w2 aL K q.2.1 ++ w4 aS K q.2.2)
def fX2_readStretch_65 (L : S2) (S : S4) (x3 : Int32) : Option ((String × (S2 × S4)) ⊕ (Unit × (S2 × S4))) := xbnd (fX4_readNumber S (5 : Int32)) (fun E9 s_4 => .inl (E9, ((L.1, L.2.1, L.2.2.1, L.2.2.2.1, L.2.2.2.2.1, L.2.2.2.2.2.1, L.2.2.2.2.2.2.1, L.2.2.2.2.2.2.2.1, L.2.2.2.2.2.2.2.2.1, L.2.2.2.2.2.2.2.2.2.1, x3, L.2.2.2.2.2.2.2.2.2.2.2), s_4))) (fun v_3 s_4 => some (.inr ((), ((L.1, L.2.1, L.2.2.1, L.2.2.2.1, L.2.2.2.2.1, L.2.2.2.2.2.1, L.2.2.2.2.2.2.1, L.2.2.2.2.2.2.2.1, L.2.2.2.2.2.2.2.2.1, L.2.2.2.2.2.2.2.2.2.1, x3, (v_3 + (1 : Int32))), s_4))))
def fX2_readStretch_52 (L : S2) (S : S4) (x3 : Int32) (t1 : Int32) : Option ((String × (S2 × S4)) ⊕ (Unit × (S2 × S4))) := fX2_readStretch_65 (L.1, L.2.1, L.2.2.1, L.2.2.2.1, L.2.2.2.2.1, L.2.2.2.2.2.1, L.2.2.2.2.2.2.1, L.2.2.2.2.2.2.2.1, L.2.2.2.2.2.2.2.2.1, t1, L.2.2.2.2.2.2.2.2.2.2.1, L.2.2.2.2.2.2.2.2.2.2.2) S x3
def fX2_readStretch (L : S2) (S : S4) : Option ((String × (S2 × S4)) ⊕ (Unit × (S2 × S4))) := xbnd (fX1_readSymbol L.1 S) (fun E9 s_2 => .inl (E9, ((s_2.1, L.2.1, L.2.2.1, L.2.2.2.1, L.2.2.2.2.1, L.2.2.2.2.2.1, L.2.2.2.2.2.2.1, L.2.2.2.2.2.2.2.1, L.2.2.2.2.2.2.2.2.1, L.2.2.2.2.2.2.2.2.2.1, L.2.2.2.2.2.2.2.2.2.2.1, L.2.2.2.2.2.2.2.2.2.2.2), s_2.2))) (fun v_1 s_2 => (if v_1 = 0 then fX2_readStretch_65 (s_2.1, L.2.1, L.2.2.1, L.2.2.2.1, L.2.2.2.2.1, L.2.2.2.2.2.1, L.2.2.2.2.2.2.1, L.2.2.2.2.2.2.2.1, L.2.2.2.2.2.2.2.2.1, L.2.2.2.2.2.2.2.2.2.2.1, L.2.2.2.2.2.2.2.2.2.2.1, L.2.2.2.2.2.2.2.2.2.2.2) s_2.2 L.2.2.2.2.2.2.2.2.2.1 else (if v_1 = (1 : Int32) then (if L.2.2.2.2.2.2.2.2.1 ≤ (L.2.2.2.2.2.2.2.2.2.1 + (1 : Int32)) then fX2_readStretch_52 (s_2.1, L.2.1, L.2.2.1, L.2.2.2.1, L.2.2.2.2.1, L.2.2.2.2.2.1, L.2.2.2.2.2.2.1, L.2.2.2.2.2.2.2.1, L.2.2.2.2.2.2.2.2.1, L.2.2.2.2.2.2.2.2.2.1, L.2.2.2.2.2.2.2.2.2.2.1, L.2.2.2.2.2.2.2.2.2.2.2) s_2.2 L.2.2.2.2.2.2.2.2.2.1 (0 : Int32) else fX2_readStretch_52 (s_2.1, L.2.1, L.2.2.1, L.2.2.2.1, L.2.2.2.2.1, L.2.2.2.2.2.1, L.2.2.2.2.2.2.1, L.2.2.2.2.2.2.2.1, L.2.2.2.2.2.2.2.2.1, L.2.2.2.2.2.2.2.2.2.1, L.2.2.2.2.2.2.2.2.2.2.1, L.2.2.2.2.2.2.2.2.2.2.2) s_2.2 L.2.2.2.2.2.2.2.2.2.1 (L.2.2.2.2.2.2.2.2.2.1 + (1 : Int32))) else fX2_readStretch_65 (s_2.1, L.2.1, L.2.2.1, L.2.2.2.1, L.2.2.2.2.1, L.2.2.2.2.2.1, L.2.2.2.2.2.2.1, L.2.2.2.2.2.2.2.1, L.2.2.2.2.2.2.2.2.1, (v_1 - (2 : Int32)), L.2.2.2.2.2.2.2.2.2.2.1, L.2.2.2.2.2.2.2.2.2.2.2) s_2.2 L.2.2.2.2.2.2.2.2.2.1)))
set_option maxHeartbeats 4000000 in
set_option maxRecDepth 100000 in
theorem kX2_readStretch_65 {p : Program} {l : Launch} {e : Env} {s : State} {m : MethodId} {args : Array Value} {below : List Frame} {meth : Method} {c : Code} {D : va_G} {K : Nat → ClassId} {A : Nat → Prop} {aL : Nat → Nat} {aS : Nat → Nat} (C : xC p s m args meth c cX2_readStretch 4 none yX2_readStretch D K A []) (hlt : l.stackTraces = false) : ∀ (L : S2) (S : S4) (x3 : Int32) (r : (String × (S2 × S4)) ⊕ (Unit × (S2 × S4))), fX2_readStretch_65  L S x3 = some r → ∀ (H : Heap) (locs : List Loc) (ls : Array Slot), va_P D vwCl (w2 aL K L ++ w4 aS K S) H → va_D A (w2 aL K L ++ w4 aS K S) → va_S A s.heap H locs → lv_has ls 4 [(0, .ref (aL 0)), (1, .ref (aS 0)), (3, .int x3)] → W p l e (xR 8 138 (oX2_readStretch aL aS K r)) s m args below meth c H locs 0 0 (xQ below args s D K A (oX2_readStretch aL aS K r)) (F0 m 65 ls []) := by
  obtain ⟨hx, hb, hr, hml, hown, hK, hts, hA, hG, hlk, hte, hnm⟩ := id C
  intro L S x3 r h H locs ls hP hD hS hl
  replace h : xbnd (fX4_readNumber S (5 : Int32)) (fun E9 s_4 => .inl (E9, ((L.1, L.2.1, L.2.2.1, L.2.2.2.1, L.2.2.2.2.1, L.2.2.2.2.2.1, L.2.2.2.2.2.2.1, L.2.2.2.2.2.2.2.1, L.2.2.2.2.2.2.2.2.1, L.2.2.2.2.2.2.2.2.2.1, x3, L.2.2.2.2.2.2.2.2.2.2.2), s_4))) (fun v_3 s_4 => some (.inr ((), ((L.1, L.2.1, L.2.2.1, L.2.2.2.1, L.2.2.2.2.1, L.2.2.2.2.2.1, L.2.2.2.2.2.2.1, L.2.2.2.2.2.2.2.1, L.2.2.2.2.2.2.2.2.1, L.2.2.2.2.2.2.2.2.2.1, x3, (v_3 + (1 : Int32))), s_4)))) = some r := h
  refine lv_aload_n hx hb dX2_readStretch_65 rfl (lv_at hl 0 rfl) ?_
  refine lv_iload_n hx hb dX2_readStretch_66 rfl (lv_at hl 2 rfl) ?_
  refine va_put (D := D) (ci := 2) (v := .int x3) (ty := .int) (C := RX2) (T := TX2) (N := 9) hx hb hts xu_X2 tyX2 tyX2_ok nmX2 hown hK hP hD hS 0 rfl rfl 7 (by decide) (hts _ xw_114) (fun _ h9 => h9) rfl (by decide +kernel) rfl rfl (Nat.le_of_ble_eq_true rfl) dX2_readStretch_67 (fun H locs hP hD hS => ?_)
  have hP : va_P D vwCl (w2 aL K (L.1, L.2.1, L.2.2.1, L.2.2.2.1, L.2.2.2.2.1, L.2.2.2.2.2.1, L.2.2.2.2.2.2.1, L.2.2.2.2.2.2.2.1, L.2.2.2.2.2.2.2.2.1, L.2.2.2.2.2.2.2.2.2.1, x3, L.2.2.2.2.2.2.2.2.2.2.2) ++ w4 aS K S) H := hP
  have hD : va_D A (w2 aL K (L.1, L.2.1, L.2.2.1, L.2.2.2.1, L.2.2.2.2.1, L.2.2.2.2.2.1, L.2.2.2.2.2.2.1, L.2.2.2.2.2.2.2.1, L.2.2.2.2.2.2.2.2.1, L.2.2.2.2.2.2.2.2.2.1, x3, L.2.2.2.2.2.2.2.2.2.2.2) ++ w4 aS K S) := hD
  refine lv_aload_n hx hb dX2_readStretch_70 rfl (lv_at hl 0 rfl) ?_
  refine lv_aload_n hx hb dX2_readStretch_71 rfl (lv_at hl 1 rfl) ?_
  refine lv_iconst (v := (5 : Int32)) hx hb dX2_readStretch_72 (by decide) ?_
  rcases xi_c h with ⟨E9, s_4, hc9, rfl⟩ | ⟨v_3, s_4, hc9, h⟩
  · exact xc_Vt (As := [.int (5 : Int32)]) (ws' := w2 aL K (L.1, L.2.1, L.2.2.1, L.2.2.2.1, L.2.2.2.2.1, L.2.2.2.2.2.1, L.2.2.2.2.2.2.1, L.2.2.2.2.2.2.2.1, L.2.2.2.2.2.2.2.2.1, L.2.2.2.2.2.2.2.2.2.1, x3, L.2.2.2.2.2.2.2.2.2.2.2) ++ w4 aS K s_4) C (mX4_readNumber l hlt D K aS _ _ _ _ hc9) xgi_X2_30 xd_X4_readNumber ⟨Nat.le_of_ble_eq_true rfl, Nat.le_of_ble_eq_true rfl⟩ ⟨Nat.le_refl _, Nat.le_refl _⟩ hl rfl (Nat.le_of_ble_eq_true rfl) dX2_readStretch_73 hP hD hS 25 4 rfl rfl rfl [25, 26] rfl rfl [(25, w4 aS K s_4)] rfl rfl rfl (List.forall_mem_cons.mpr ⟨Nat.le_of_ble_eq_true rfl, (fun _ h => absurd h List.not_mem_nil)⟩)
  · refine xc_V (As := [.int (5 : Int32)]) (ws' := w2 aL K (L.1, L.2.1, L.2.2.1, L.2.2.2.1, L.2.2.2.2.1, L.2.2.2.2.2.1, L.2.2.2.2.2.2.1, L.2.2.2.2.2.2.2.1, L.2.2.2.2.2.2.2.2.1, L.2.2.2.2.2.2.2.2.2.1, x3, L.2.2.2.2.2.2.2.2.2.2.2) ++ w4 aS K s_4) C (mX4_readNumber l hlt D K aS _ _ _ _ hc9) xgi_X2_30 xd_X4_readNumber ⟨Nat.le_of_ble_eq_true rfl, Nat.le_of_ble_eq_true rfl⟩ ⟨Nat.zero_le _, Nat.zero_le _⟩ hl rfl (Nat.le_of_ble_eq_true rfl) dX2_readStretch_73 hP hD hS 25 4 rfl rfl rfl [25, 26] rfl rfl [(25, w4 aS K s_4)] rfl rfl rfl (List.forall_mem_cons.mpr ⟨Nat.le_of_ble_eq_true rfl, (fun _ h => absurd h List.not_mem_nil)⟩) (fun H locs hP hD hS => ?_)
    refine W.eq (g2 := F0 m 76 ls [.int v_3, .ref (aL 0)]) rfl ?_
    refine lv_iconst (v := (1 : Int32)) hx hb dX2_readStretch_76 (by decide) ?_
    refine lv_iadd hx hb dX2_readStretch_77 ?_
    refine va_put (D := D) (ci := 2) (v := .int (v_3 + (1 : Int32))) (ty := .int) (C := RX2) (T := TX2) (N := 9) hx hb hts xu_X2 tyX2 tyX2_ok nmX2 hown hK hP hD hS 0 rfl rfl 8 (by decide) (hts _ xw_115) (fun _ h9 => h9) rfl (by decide +kernel) rfl rfl (Nat.le_of_ble_eq_true rfl) dX2_readStretch_78 (fun H locs hP hD hS => ?_)
    have hP : va_P D vwCl (w2 aL K (L.1, L.2.1, L.2.2.1, L.2.2.2.1, L.2.2.2.2.1, L.2.2.2.2.2.1, L.2.2.2.2.2.2.1, L.2.2.2.2.2.2.2.1, L.2.2.2.2.2.2.2.2.1, L.2.2.2.2.2.2.2.2.2.1, x3, (v_3 + (1 : Int32))) ++ w4 aS K s_4) H := hP
    have hD : va_D A (w2 aL K (L.1, L.2.1, L.2.2.1, L.2.2.2.1, L.2.2.2.2.1, L.2.2.2.2.2.1, L.2.2.2.2.2.2.1, L.2.2.2.2.2.2.2.1, L.2.2.2.2.2.2.2.2.1, L.2.2.2.2.2.2.2.2.2.1, x3, (v_3 + (1 : Int32))) ++ w4 aS K s_4) := hD
    obtain rfl := Option.some.inj h
    exact xe_v C hP hD hS dX2_readStretch_81
set_option maxHeartbeats 4000000 in
set_option maxRecDepth 100000 in
theorem kX2_readStretch_52 {p : Program} {l : Launch} {e : Env} {s : State} {m : MethodId} {args : Array Value} {below : List Frame} {meth : Method} {c : Code} {D : va_G} {K : Nat → ClassId} {A : Nat → Prop} {aL : Nat → Nat} {aS : Nat → Nat} (C : xC p s m args meth c cX2_readStretch 4 none yX2_readStretch D K A []) (hlt : l.stackTraces = false) : ∀ (L : S2) (S : S4) (x3 : Int32) (t1 : Int32) (r : (String × (S2 × S4)) ⊕ (Unit × (S2 × S4))), fX2_readStretch_52  L S x3 t1 = some r → ∀ (H : Heap) (locs : List Loc) (ls : Array Slot), va_P D vwCl (w2 aL K L ++ w4 aS K S) H → va_D A (w2 aL K L ++ w4 aS K S) → va_S A s.heap H locs → lv_has ls 4 [(0, .ref (aL 0)), (1, .ref (aS 0)), (3, .int x3)] → W p l e (xR 8 138 (oX2_readStretch aL aS K r)) s m args below meth c H locs 0 0 (xQ below args s D K A (oX2_readStretch aL aS K r)) (F0 m 52 ls [.int t1, .ref (aL 0)]) := by
  obtain ⟨hx, hb, hr, hml, hown, hK, hts, hA, hG, hlk, hte, hnm⟩ := id C
  intro L S x3 t1 r h H locs ls hP hD hS hl
  replace h : fX2_readStretch_65 (L.1, L.2.1, L.2.2.1, L.2.2.2.1, L.2.2.2.2.1, L.2.2.2.2.2.1, L.2.2.2.2.2.2.1, L.2.2.2.2.2.2.2.1, L.2.2.2.2.2.2.2.2.1, t1, L.2.2.2.2.2.2.2.2.2.2.1, L.2.2.2.2.2.2.2.2.2.2.2) S x3 = some r := h
  refine va_put (D := D) (ci := 2) (v := .int t1) (ty := .int) (C := RX2) (T := TX2) (N := 9) hx hb hts xu_X2 tyX2 tyX2_ok nmX2 hown hK hP hD hS 0 rfl rfl 6 (by decide) (hts _ xw_113) (fun _ h9 => h9) rfl (by decide +kernel) rfl rfl (Nat.le_of_ble_eq_true rfl) dX2_readStretch_52 (fun H locs hP hD hS => ?_)
  have hP : va_P D vwCl (w2 aL K (L.1, L.2.1, L.2.2.1, L.2.2.2.1, L.2.2.2.2.1, L.2.2.2.2.2.1, L.2.2.2.2.2.2.1, L.2.2.2.2.2.2.2.1, L.2.2.2.2.2.2.2.2.1, t1, L.2.2.2.2.2.2.2.2.2.2.1, L.2.2.2.2.2.2.2.2.2.2.2) ++ w4 aS K S) H := hP
  have hD : va_D A (w2 aL K (L.1, L.2.1, L.2.2.1, L.2.2.2.1, L.2.2.2.2.1, L.2.2.2.2.2.1, L.2.2.2.2.2.2.1, L.2.2.2.2.2.2.2.1, L.2.2.2.2.2.2.2.2.1, t1, L.2.2.2.2.2.2.2.2.2.2.1, L.2.2.2.2.2.2.2.2.2.2.2) ++ w4 aS K S) := hD
  refine lv_goto (tgt := 65) hx hb dX2_readStretch_55 (by decide) ?_
  exact kX2_readStretch_65 C hlt _ _ _ _ h _ _ _ hP hD hS (lv_sub hl [0, 1, 2] rfl)
set_option maxHeartbeats 4000000 in
set_option maxRecDepth 100000 in
theorem mX2_readStretch (l : Launch) (hlt : l.stackTraces = false) (D : va_G) (K : Nat → ClassId) (aL : Nat → Nat) (aS : Nat → Nat) (sz : Nat) (L : S2) (S : S4) (r : (String × (S2 × S4)) ⊕ (Unit × (S2 × S4))) (h : fX2_readStretch L S = some r) : xMet l yX2_readStretch cX2_readStretch 4 none 8 138 D K [.ref (aL 0), .ref (aS 0)] sz (w2 aL K L ++ w4 aS K S) (oX2_readStretch aL aS K r) := by
  refine xm_of _ (by decide +kernel) (Nat.le_of_ble_eq_true rfl) (fun p e s m args below meth c A C hP hD ls hl => ?_)
  have hl : lv_has ls 4 [(0, .ref (aL 0)), (1, .ref (aS 0))] := hl
  have hS : va_S A s.heap s.heap [] := va_S.rf
  obtain ⟨hx, hb, hr, hml, hown, hK, hts, hA, hG, hlk, hte, hnm⟩ := id C
  replace h : xbnd (fX1_readSymbol L.1 S) (fun E9 s_2 => .inl (E9, ((s_2.1, L.2.1, L.2.2.1, L.2.2.2.1, L.2.2.2.2.1, L.2.2.2.2.2.1, L.2.2.2.2.2.2.1, L.2.2.2.2.2.2.2.1, L.2.2.2.2.2.2.2.2.1, L.2.2.2.2.2.2.2.2.2.1, L.2.2.2.2.2.2.2.2.2.2.1, L.2.2.2.2.2.2.2.2.2.2.2), s_2.2))) (fun v_1 s_2 => (if v_1 = 0 then fX2_readStretch_65 (s_2.1, L.2.1, L.2.2.1, L.2.2.2.1, L.2.2.2.2.1, L.2.2.2.2.2.1, L.2.2.2.2.2.2.1, L.2.2.2.2.2.2.2.1, L.2.2.2.2.2.2.2.2.1, L.2.2.2.2.2.2.2.2.2.2.1, L.2.2.2.2.2.2.2.2.2.2.1, L.2.2.2.2.2.2.2.2.2.2.2) s_2.2 L.2.2.2.2.2.2.2.2.2.1 else (if v_1 = (1 : Int32) then (if L.2.2.2.2.2.2.2.2.1 ≤ (L.2.2.2.2.2.2.2.2.2.1 + (1 : Int32)) then fX2_readStretch_52 (s_2.1, L.2.1, L.2.2.1, L.2.2.2.1, L.2.2.2.2.1, L.2.2.2.2.2.1, L.2.2.2.2.2.2.1, L.2.2.2.2.2.2.2.1, L.2.2.2.2.2.2.2.2.1, L.2.2.2.2.2.2.2.2.2.1, L.2.2.2.2.2.2.2.2.2.2.1, L.2.2.2.2.2.2.2.2.2.2.2) s_2.2 L.2.2.2.2.2.2.2.2.2.1 (0 : Int32) else fX2_readStretch_52 (s_2.1, L.2.1, L.2.2.1, L.2.2.2.1, L.2.2.2.2.1, L.2.2.2.2.2.1, L.2.2.2.2.2.2.1, L.2.2.2.2.2.2.2.1, L.2.2.2.2.2.2.2.2.1, L.2.2.2.2.2.2.2.2.2.1, L.2.2.2.2.2.2.2.2.2.2.1, L.2.2.2.2.2.2.2.2.2.2.2) s_2.2 L.2.2.2.2.2.2.2.2.2.1 (L.2.2.2.2.2.2.2.2.2.1 + (1 : Int32))) else fX2_readStretch_65 (s_2.1, L.2.1, L.2.2.1, L.2.2.2.1, L.2.2.2.2.1, L.2.2.2.2.2.1, L.2.2.2.2.2.2.1, L.2.2.2.2.2.2.2.1, L.2.2.2.2.2.2.2.2.1, (v_1 - (2 : Int32)), L.2.2.2.2.2.2.2.2.2.2.1, L.2.2.2.2.2.2.2.2.2.2.2) s_2.2 L.2.2.2.2.2.2.2.2.2.1))) = some r := h
  refine lv_aload_n hx hb dX2_readStretch_0 rfl (lv_at hl 0 rfl) ?_
  refine va_get (D := D) (ci := 2) (v := .ref (aL 1)) (C := RX2) (T := TX2) (N := 9) hx hb hts xu_X2 hown hK hP 0 rfl rfl 0 (by decide) (hts _ xw_107) (fun _ h9 => h9) rfl dX2_readStretch_1 ?_
  refine lv_aload_n hx hb dX2_readStretch_4 rfl (lv_at hl 1 rfl) ?_
  rcases xi_c h with ⟨E9, s_2, hc9, rfl⟩ | ⟨v_1, s_2, hc9, h⟩
  · exact xc_Vt (As := [.ref (aS 0)]) (ws' := w2 aL K (s_2.1, L.2.1, L.2.2.1, L.2.2.2.1, L.2.2.2.2.1, L.2.2.2.2.2.1, L.2.2.2.2.2.2.1, L.2.2.2.2.2.2.2.1, L.2.2.2.2.2.2.2.2.1, L.2.2.2.2.2.2.2.2.2.1, L.2.2.2.2.2.2.2.2.2.2.1, L.2.2.2.2.2.2.2.2.2.2.2) ++ w4 aS K s_2.2) C (mX1_readSymbol l hlt D K (fun i => aL (i + 1)) aS _ _ _ _ hc9) xgi_X2_69 xd_X1_readSymbol ⟨Nat.le_of_ble_eq_true rfl, Nat.le_of_ble_eq_true rfl⟩ ⟨Nat.le_refl _, Nat.le_refl _⟩ hl rfl (Nat.le_of_ble_eq_true rfl) dX2_readStretch_5 hP hD hS 1 1 rfl rfl rfl [1, 2, 3, 4, 25, 26] rfl rfl [(1, w1 (fun i => aL (i + 1)) K s_2.1), (25, w4 aS K s_2.2)] rfl rfl rfl (List.forall_mem_cons.mpr ⟨Nat.le_of_ble_eq_true rfl, (List.forall_mem_cons.mpr ⟨Nat.le_of_ble_eq_true rfl, (fun _ h => absurd h List.not_mem_nil)⟩)⟩)
  · refine xc_V (As := [.ref (aS 0)]) (ws' := w2 aL K (s_2.1, L.2.1, L.2.2.1, L.2.2.2.1, L.2.2.2.2.1, L.2.2.2.2.2.1, L.2.2.2.2.2.2.1, L.2.2.2.2.2.2.2.1, L.2.2.2.2.2.2.2.2.1, L.2.2.2.2.2.2.2.2.2.1, L.2.2.2.2.2.2.2.2.2.2.1, L.2.2.2.2.2.2.2.2.2.2.2) ++ w4 aS K s_2.2) C (mX1_readSymbol l hlt D K (fun i => aL (i + 1)) aS _ _ _ _ hc9) xgi_X2_69 xd_X1_readSymbol ⟨Nat.le_of_ble_eq_true rfl, Nat.le_of_ble_eq_true rfl⟩ ⟨Nat.zero_le _, Nat.zero_le _⟩ hl rfl (Nat.le_of_ble_eq_true rfl) dX2_readStretch_5 hP hD hS 1 1 rfl rfl rfl [1, 2, 3, 4, 25, 26] rfl rfl [(1, w1 (fun i => aL (i + 1)) K s_2.1), (25, w4 aS K s_2.2)] rfl rfl rfl (List.forall_mem_cons.mpr ⟨Nat.le_of_ble_eq_true rfl, (List.forall_mem_cons.mpr ⟨Nat.le_of_ble_eq_true rfl, (fun _ h => absurd h List.not_mem_nil)⟩)⟩) (fun H locs hP hD hS => ?_)
    refine W.eq (g2 := F0 m 8 ls [.int v_1]) rfl ?_
    refine lv_istore_n (lv' := [(2, .int v_1), (0, .ref (aL 0)), (1, .ref (aS 0))]) hx hb dX2_readStretch_8 rfl hl (by decide) rfl (fun ls hl => ?_)
    refine lv_aload_n hx hb dX2_readStretch_9 rfl (lv_at hl 1 rfl) ?_
    refine va_get (D := D) (ci := 2) (v := .int L.2.2.2.2.2.2.2.2.2.1) (C := RX2) (T := TX2) (N := 9) hx hb hts xu_X2 hown hK hP 0 rfl rfl 6 (by decide) (hts _ xw_113) (fun _ h9 => h9) rfl dX2_readStretch_10 ?_
    refine lv_istore_n (lv' := [(3, .int L.2.2.2.2.2.2.2.2.2.1), (2, .int v_1), (0, .ref (aL 0)), (1, .ref (aS 0))]) hx hb dX2_readStretch_13 rfl hl (by decide) rfl (fun ls hl => ?_)
    refine lv_iload_n hx hb dX2_readStretch_14 rfl (lv_at hl 1 rfl) ?_
    refine lv_if_ne (tgt := 29) hx hb dX2_readStretch_15 (by decide) (fun c9 => ?_) (fun c9 => ?_)
    · replace h := xi_f c9 h
      refine lv_iload_n hx hb dX2_readStretch_29 rfl (lv_at hl 1 rfl) ?_
      refine lv_iconst (v := (1 : Int32)) hx hb dX2_readStretch_30 (by decide) ?_
      refine lv_icmp_ne (tgt := 58) hx hb dX2_readStretch_31 (by decide) (fun c9 => ?_) (fun c9 => ?_)
      · replace h := xi_f c9 h
        refine lv_aload_n hx hb dX2_readStretch_58 rfl (lv_at hl 2 rfl) ?_
        refine lv_iload_n hx hb dX2_readStretch_59 rfl (lv_at hl 1 rfl) ?_
        refine lv_iconst (v := (2 : Int32)) hx hb dX2_readStretch_60 (by decide) ?_
        refine lv_isub hx hb dX2_readStretch_61 ?_
        refine va_put (D := D) (ci := 2) (v := .int (v_1 - (2 : Int32))) (ty := .int) (C := RX2) (T := TX2) (N := 9) hx hb hts xu_X2 tyX2 tyX2_ok nmX2 hown hK hP hD hS 0 rfl rfl 6 (by decide) (hts _ xw_113) (fun _ h9 => h9) rfl (by decide +kernel) rfl rfl (Nat.le_of_ble_eq_true rfl) dX2_readStretch_62 (fun H locs hP hD hS => ?_)
        have hP : va_P D vwCl (w2 aL K (s_2.1, L.2.1, L.2.2.1, L.2.2.2.1, L.2.2.2.2.1, L.2.2.2.2.2.1, L.2.2.2.2.2.2.1, L.2.2.2.2.2.2.2.1, L.2.2.2.2.2.2.2.2.1, (v_1 - (2 : Int32)), L.2.2.2.2.2.2.2.2.2.2.1, L.2.2.2.2.2.2.2.2.2.2.2) ++ w4 aS K s_2.2) H := hP
        have hD : va_D A (w2 aL K (s_2.1, L.2.1, L.2.2.1, L.2.2.2.1, L.2.2.2.2.1, L.2.2.2.2.2.1, L.2.2.2.2.2.2.1, L.2.2.2.2.2.2.2.1, L.2.2.2.2.2.2.2.2.1, (v_1 - (2 : Int32)), L.2.2.2.2.2.2.2.2.2.2.1, L.2.2.2.2.2.2.2.2.2.2.2) ++ w4 aS K s_2.2) := hD
        exact kX2_readStretch_65 C hlt _ _ _ _ h _ _ _ hP hD hS (lv_sub hl [2, 3, 0] rfl)
      · replace h := xi_t c9 h
        refine lv_aload_n hx hb dX2_readStretch_34 rfl (lv_at hl 2 rfl) ?_
        refine lv_iload_n hx hb dX2_readStretch_35 rfl (lv_at hl 0 rfl) ?_
        refine lv_iconst (v := (1 : Int32)) hx hb dX2_readStretch_36 (by decide) ?_
        refine lv_iadd hx hb dX2_readStretch_37 ?_
        refine lv_aload_n hx hb dX2_readStretch_38 rfl (lv_at hl 2 rfl) ?_
        refine va_get (D := D) (ci := 2) (v := .int L.2.2.2.2.2.2.2.2.1) (C := RX2) (T := TX2) (N := 9) hx hb hts xu_X2 hown hK hP 0 rfl rfl 5 (by decide) (hts _ xw_112) (fun _ h9 => h9) rfl dX2_readStretch_39 ?_
        refine lv_icmp_ge (tgt := 51) hx hb dX2_readStretch_42 (by decide) (fun c9 => ?_) (fun c9 => ?_)
        · replace h := xi_t c9 h
          refine lv_iconst (v := (0 : Int32)) hx hb dX2_readStretch_51 (by decide) ?_
          exact kX2_readStretch_52 C hlt _ _ _ _ _ h _ _ _ hP hD hS (lv_sub hl [2, 3, 0] rfl)
        · replace h := xi_f c9 h
          refine lv_iload_n hx hb dX2_readStretch_45 rfl (lv_at hl 0 rfl) ?_
          refine lv_iconst (v := (1 : Int32)) hx hb dX2_readStretch_46 (by decide) ?_
          refine lv_iadd hx hb dX2_readStretch_47 ?_
          refine lv_goto (tgt := 52) hx hb dX2_readStretch_48 (by decide) ?_
          exact kX2_readStretch_52 C hlt _ _ _ _ _ h _ _ _ hP hD hS (lv_sub hl [2, 3, 0] rfl)
    · replace h := xi_t c9 h
      refine lv_aload_n hx hb dX2_readStretch_18 rfl (lv_at hl 2 rfl) ?_
      refine lv_aload_n hx hb dX2_readStretch_19 rfl (lv_at hl 2 rfl) ?_
      refine va_get (D := D) (ci := 2) (v := .int L.2.2.2.2.2.2.2.2.2.2.1) (C := RX2) (T := TX2) (N := 9) hx hb hts xu_X2 hown hK hP 0 rfl rfl 7 (by decide) (hts _ xw_114) (fun _ h9 => h9) rfl dX2_readStretch_20 ?_
      refine va_put (D := D) (ci := 2) (v := .int L.2.2.2.2.2.2.2.2.2.2.1) (ty := .int) (C := RX2) (T := TX2) (N := 9) hx hb hts xu_X2 tyX2 tyX2_ok nmX2 hown hK hP hD hS 0 rfl rfl 6 (by decide) (hts _ xw_113) (fun _ h9 => h9) rfl (by decide +kernel) rfl rfl (Nat.le_of_ble_eq_true rfl) dX2_readStretch_23 (fun H locs hP hD hS => ?_)
      have hP : va_P D vwCl (w2 aL K (s_2.1, L.2.1, L.2.2.1, L.2.2.2.1, L.2.2.2.2.1, L.2.2.2.2.2.1, L.2.2.2.2.2.2.1, L.2.2.2.2.2.2.2.1, L.2.2.2.2.2.2.2.2.1, L.2.2.2.2.2.2.2.2.2.2.1, L.2.2.2.2.2.2.2.2.2.2.1, L.2.2.2.2.2.2.2.2.2.2.2) ++ w4 aS K s_2.2) H := hP
      have hD : va_D A (w2 aL K (s_2.1, L.2.1, L.2.2.1, L.2.2.2.1, L.2.2.2.2.1, L.2.2.2.2.2.1, L.2.2.2.2.2.2.1, L.2.2.2.2.2.2.2.1, L.2.2.2.2.2.2.2.2.1, L.2.2.2.2.2.2.2.2.2.2.1, L.2.2.2.2.2.2.2.2.2.2.1, L.2.2.2.2.2.2.2.2.2.2.2) ++ w4 aS K s_2.2) := hD
      refine lv_goto (tgt := 65) hx hb dX2_readStretch_26 (by decide) ?_
      exact kX2_readStretch_65 C hlt _ _ _ _ h _ _ _ hP hD hS (lv_sub hl [2, 3, 0] rfl)
